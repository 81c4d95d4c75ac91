set_option maxRecDepth 20000 in
theorem ggX8_about_X8_now : GoodIn wsX8_about wsX8_now := goodIn_r _ [25, 9, 26, 27, 28, 29, 30, 31, 32, 33, 34, 35, 36, 37, 38, 39, 40, 41, 42, 43, 44, 45, 63, 64, 65, 66] rfl rfl
set_option maxRecDepth 20000 in
theorem gX8_about_X8_now : GoodIn wsX8_about (wsV RX8 88 RX8 yX8_now wsX8_now) := goodIn_app (goodIn_of _ (by decide +kernel)) ggX8_about_X8_now
theorem dX8_about_0 : decode cX8_about 0 = .ok (.iload_n 1, 1) := by decide +kernel
theorem dX8_about_1 : decode cX8_about 1 = .ok (.tableswitch 192 0 14 #[75, 83, 91, 99, 107, 115, 123, 131, 139, 147, 155, 160, 168, 179, 187], 75) := by decide +kernel
theorem dX8_about_76 : decode cX8_about 76 = .ok (.aload_n 0, 1) := by decide +kernel
theorem dX8_about_77 : decode cX8_about 77 = .ok (.getfield 19, 3) := by decide +kernel
theorem dX8_about_80 : decode cX8_about 80 = .ok (.getfield 105, 3) := by decide +kernel
theorem dX8_about_83 : decode cX8_about 83 = .ok (.ireturn, 1) := by decide +kernel
theorem dX8_about_84 : decode cX8_about 84 = .ok (.aload_n 0, 1) := by decide +kernel
theorem dX8_about_85 : decode cX8_about 85 = .ok (.getfield 19, 3) := by decide +kernel
theorem dX8_about_88 : decode cX8_about 88 = .ok (.getfield 157, 3) := by decide +kernel
theorem dX8_about_91 : decode cX8_about 91 = .ok (.ireturn, 1) := by decide +kernel
theorem dX8_about_92 : decode cX8_about 92 = .ok (.aload_n 0, 1) := by decide +kernel
theorem dX8_about_93 : decode cX8_about 93 = .ok (.getfield 19, 3) := by decide +kernel
theorem dX8_about_96 : decode cX8_about 96 = .ok (.getfield 118, 3) := by decide +kernel
theorem dX8_about_99 : decode cX8_about 99 = .ok (.ireturn, 1) := by decide +kernel
theorem dX8_about_100 : decode cX8_about 100 = .ok (.aload_n 0, 1) := by decide +kernel
theorem dX8_about_101 : decode cX8_about 101 = .ok (.invokevirtual 88, 3) := by decide +kernel
theorem dX8_about_104 : decode cX8_about 104 = .ok (.getfield 124, 3) := by decide +kernel
theorem dX8_about_107 : decode cX8_about 107 = .ok (.ireturn, 1) := by decide +kernel
theorem dX8_about_108 : decode cX8_about 108 = .ok (.aload_n 0, 1) := by decide +kernel
theorem dX8_about_109 : decode cX8_about 109 = .ok (.invokevirtual 88, 3) := by decide +kernel
theorem dX8_about_112 : decode cX8_about 112 = .ok (.getfield 145, 3) := by decide +kernel
theorem dX8_about_115 : decode cX8_about 115 = .ok (.ireturn, 1) := by decide +kernel
theorem dX8_about_116 : decode cX8_about 116 = .ok (.aload_n 0, 1) := by decide +kernel
theorem dX8_about_117 : decode cX8_about 117 = .ok (.invokevirtual 88, 3) := by decide +kernel
theorem dX8_about_120 : decode cX8_about 120 = .ok (.getfield 160, 3) := by decide +kernel
theorem dX8_about_123 : decode cX8_about 123 = .ok (.ireturn, 1) := by decide +kernel
theorem dX8_about_124 : decode cX8_about 124 = .ok (.aload_n 0, 1) := by decide +kernel
theorem dX8_about_125 : decode cX8_about 125 = .ok (.invokevirtual 88, 3) := by decide +kernel
theorem dX8_about_128 : decode cX8_about 128 = .ok (.getfield 163, 3) := by decide +kernel
theorem dX8_about_131 : decode cX8_about 131 = .ok (.ireturn, 1) := by decide +kernel
theorem dX8_about_132 : decode cX8_about 132 = .ok (.aload_n 0, 1) := by decide +kernel
theorem dX8_about_133 : decode cX8_about 133 = .ok (.getfield 26, 3) := by decide +kernel
theorem dX8_about_136 : decode cX8_about 136 = .ok (.getfield 166, 3) := by decide +kernel
theorem dX8_about_139 : decode cX8_about 139 = .ok (.ireturn, 1) := by decide +kernel
theorem dX8_about_140 : decode cX8_about 140 = .ok (.aload_n 0, 1) := by decide +kernel
theorem dX8_about_141 : decode cX8_about 141 = .ok (.getfield 26, 3) := by decide +kernel
theorem dX8_about_144 : decode cX8_about 144 = .ok (.getfield 169, 3) := by decide +kernel
theorem dX8_about_147 : decode cX8_about 147 = .ok (.ireturn, 1) := by decide +kernel
theorem dX8_about_148 : decode cX8_about 148 = .ok (.aload_n 0, 1) := by decide +kernel
theorem dX8_about_149 : decode cX8_about 149 = .ok (.getfield 58, 3) := by decide +kernel
theorem dX8_about_152 : decode cX8_about 152 = .ok (.getfield 99, 3) := by decide +kernel
theorem dX8_about_155 : decode cX8_about 155 = .ok (.ireturn, 1) := by decide +kernel
theorem dX8_about_156 : decode cX8_about 156 = .ok (.aload_n 0, 1) := by decide +kernel
theorem dX8_about_157 : decode cX8_about 157 = .ok (.getfield 172, 3) := by decide +kernel
theorem dX8_about_160 : decode cX8_about 160 = .ok (.ireturn, 1) := by decide +kernel
theorem dX8_about_161 : decode cX8_about 161 = .ok (.aload_n 0, 1) := by decide +kernel
theorem dX8_about_162 : decode cX8_about 162 = .ok (.getfield 10, 3) := by decide +kernel
theorem dX8_about_165 : decode cX8_about 165 = .ok (.getfield 69, 3) := by decide +kernel
theorem dX8_about_168 : decode cX8_about 168 = .ok (.ireturn, 1) := by decide +kernel
theorem dX8_about_169 : decode cX8_about 169 = .ok (.aload_n 0, 1) := by decide +kernel
theorem dX8_about_170 : decode cX8_about 170 = .ok (.getfield 19, 3) := by decide +kernel
theorem dX8_about_173 : decode cX8_about 173 = .ok (.getfield 175, 3) := by decide +kernel
theorem dX8_about_176 : decode cX8_about 176 = .ok (.getfield 179, 3) := by decide +kernel
theorem dX8_about_179 : decode cX8_about 179 = .ok (.ireturn, 1) := by decide +kernel
theorem dX8_about_180 : decode cX8_about 180 = .ok (.aload_n 0, 1) := by decide +kernel
theorem dX8_about_181 : decode cX8_about 181 = .ok (.getfield 19, 3) := by decide +kernel
theorem dX8_about_184 : decode cX8_about 184 = .ok (.getfield 184, 3) := by decide +kernel
theorem dX8_about_187 : decode cX8_about 187 = .ok (.ireturn, 1) := by decide +kernel
theorem dX8_about_188 : decode cX8_about 188 = .ok (.aload_n 0, 1) := by decide +kernel
theorem dX8_about_189 : decode cX8_about 189 = .ok (.getfield 102, 3) := by decide +kernel
theorem dX8_about_192 : decode cX8_about 192 = .ok (.ireturn, 1) := by decide +kernel
theorem dX8_about_193 : decode cX8_about 193 = .ok (.iconst (-1), 1) := by decide +kernel
theorem dX8_about_194 : decode cX8_about 194 = .ok (.ireturn, 1) := by decide +kernel
set_option maxRecDepth 20000 in
theorem ggX8_back_X8_has : GoodIn wsX8_back wsX8_has := goodIn_r _ [8] rfl rfl
set_option maxRecDepth 20000 in
theorem gX8_back_X8_has : GoodIn wsX8_back (va_wsS RX8 220 yX8_has wsX8_has) := goodIn_app (goodIn_of _ (by decide +kernel)) ggX8_back_X8_has
set_option maxRecDepth 20000 in
theorem ggX8_back_X0_forget : GoodIn wsX8_back wsX0_forget := goodIn_r _ [13, 14, 15, 58, 59, 60, 61] rfl rfl
set_option maxRecDepth 20000 in
theorem gX8_back_X0_forget : GoodIn wsX8_back (wsV RX8 85 RX0 yX0_forget wsX0_forget) := goodIn_app (goodIn_of _ (by decide +kernel)) ggX8_back_X0_forget
set_option maxRecDepth 20000 in
theorem ggX8_back_X8_now : GoodIn wsX8_back wsX8_now := goodIn_r _ [19, 2, 20, 21, 22, 12, 23, 24, 25, 40, 41, 42, 43, 44, 45, 46, 47, 48, 49, 50, 51, 52, 58, 59, 60, 61] rfl rfl
set_option maxRecDepth 20000 in
theorem gX8_back_X8_now : GoodIn wsX8_back (wsV RX8 88 RX8 yX8_now wsX8_now) := goodIn_app (goodIn_of _ (by decide +kernel)) ggX8_back_X8_now
set_option maxRecDepth 20000 in
theorem ggX8_back_X4_copy : GoodIn wsX8_back wsX4_copy := goodIn_r _ [30, 31, 32, 33, 34, 35, 36, 37, 38, 39, 53, 54, 55, 56, 57] rfl rfl
set_option maxRecDepth 20000 in
theorem gX8_back_X4_copy : GoodIn wsX8_back (wsV RX8 216 RX4 yX4_copy wsX4_copy) := goodIn_app (goodIn_of _ (by decide +kernel)) ggX8_back_X4_copy
theorem dX8_back_0 : decode cX8_back 0 = .ok (.iload_n 1, 1) := by decide +kernel
theorem dX8_back_1 : decode cX8_back 1 = .ok (.ifCond .lt 19, 3) := by decide +kernel
theorem dX8_back_4 : decode cX8_back 4 = .ok (.iload_n 1, 1) := by decide +kernel
theorem dX8_back_5 : decode cX8_back 5 = .ok (.iconst 3, 1) := by decide +kernel
theorem dX8_back_6 : decode cX8_back 6 = .ok (.if_icmp .ge 14, 3) := by decide +kernel
theorem dX8_back_9 : decode cX8_back 9 = .ok (.aload_n 0, 1) := by decide +kernel
theorem dX8_back_10 : decode cX8_back 10 = .ok (.getfield 96, 3) := by decide +kernel
theorem dX8_back_13 : decode cX8_back 13 = .ok (.iload_n 1, 1) := by decide +kernel
theorem dX8_back_14 : decode cX8_back 14 = .ok (.invokestatic 220, 3) := by decide +kernel
theorem dX8_back_17 : decode cX8_back 17 = .ok (.ifCond .ne 5, 3) := by decide +kernel
theorem dX8_back_20 : decode cX8_back 20 = .ok (.iconst (-1), 1) := by decide +kernel
theorem dX8_back_21 : decode cX8_back 21 = .ok (.ireturn, 1) := by decide +kernel
theorem dX8_back_22 : decode cX8_back 22 = .ok (.aload_n 0, 1) := by decide +kernel
theorem dX8_back_23 : decode cX8_back 23 = .ok (.getfield 26, 3) := by decide +kernel
theorem dX8_back_26 : decode cX8_back 26 = .ok (.invokevirtual 85, 3) := by decide +kernel
theorem dX8_back_29 : decode cX8_back 29 = .ok (.aload_n 0, 1) := by decide +kernel
theorem dX8_back_30 : decode cX8_back 30 = .ok (.invokevirtual 88, 3) := by decide +kernel
theorem dX8_back_33 : decode cX8_back 33 = .ok (.aload_n 0, 1) := by decide +kernel
theorem dX8_back_34 : decode cX8_back 34 = .ok (.getfield 37, 3) := by decide +kernel
theorem dX8_back_37 : decode cX8_back 37 = .ok (.iload_n 1, 1) := by decide +kernel
theorem dX8_back_38 : decode cX8_back 38 = .ok (.aaload, 1) := by decide +kernel
theorem dX8_back_39 : decode cX8_back 39 = .ok (.invokevirtual 216, 3) := by decide +kernel
theorem dX8_back_42 : decode cX8_back 42 = .ok (.aload_n 0, 1) := by decide +kernel
theorem dX8_back_43 : decode cX8_back 43 = .ok (.invokevirtual 88, 3) := by decide +kernel
theorem dX8_back_46 : decode cX8_back 46 = .ok (.getfield 160, 3) := by decide +kernel
theorem dX8_back_49 : decode cX8_back 49 = .ok (.ireturn, 1) := by decide +kernel
theorem in_X8_back_X8 : ∀ w ∈ wsX80, w ∈ wsX8_back := fun _ h => List.mem_cons_of_mem _ (List.mem_append_left _ (List.mem_append_left _ (List.mem_append_right _ h)))
theorem in_X8_back_X4 : ∀ w ∈ wsX40, w ∈ wsX8_back := fun _ h => List.mem_cons_of_mem _ (List.mem_append_left _ (List.mem_append_right _ h))
theorem in_X8_about_X8 : ∀ w ∈ wsX80, w ∈ wsX8_about := fun _ h => List.mem_cons_of_mem _ (List.mem_append_left _ (List.mem_append_left _ (List.mem_append_left _ (List.mem_append_left _ (List.mem_append_left _ (List.mem_append_left _ (List.mem_append_right _ h)))))))
theorem in_X8_about_X5 : ∀ w ∈ wsX50, w ∈ wsX8_about := fun _ h => List.mem_cons_of_mem _ (List.mem_append_left _ (List.mem_append_left _ (List.mem_append_left _ (List.mem_append_left _ (List.mem_append_left _ (List.mem_append_right _ h))))))
theorem in_X8_about_X4 : ∀ w ∈ wsX40, w ∈ wsX8_about := fun _ h => List.mem_cons_of_mem _ (List.mem_append_left _ (List.mem_append_left _ (List.mem_append_left _ (List.mem_append_left _ (List.mem_append_right _ h)))))
theorem in_X8_about_X0 : ∀ w ∈ wsX00, w ∈ wsX8_about := fun _ h => List.mem_cons_of_mem _ (List.mem_append_left _ (List.mem_append_left _ (List.mem_append_left _ (List.mem_append_right _ h))))
theorem in_X8_about_X7 : ∀ w ∈ wsX70, w ∈ wsX8_about := fun _ h => List.mem_cons_of_mem _ (List.mem_append_left _ (List.mem_append_left _ (List.mem_append_right _ h)))
theorem in_X8_about_X3 : ∀ w ∈ wsX30, w ∈ wsX8_about := fun _ h => List.mem_cons_of_mem _ (List.mem_append_left _ (List.mem_append_right _ h))
theorem in_X8_about_X1 : ∀ w ∈ wsX10, w ∈ wsX8_about := fun _ h => List.mem_cons_of_mem _ (List.mem_append_right _ h)
set_option maxHeartbeats 4000000 in
set_option maxRecDepth 100000 in
theorem s_X8_back_0 (l : Launch) (B0 : Nat) (adK adV : Nat → Nat) (D : va_G) (cy : Nat → ClassId) (ad : Nat → Nat) (fr0 : Nat → va_E) (tx : Int32) (rby : Int32) (rnx : Int32) (f : Nat → va_E) (hT : TYx ad cy fr0 tx rby rnx f) (p1 : Int32) (sz : Nat) : TtI l yX8_back wsX8_back 2 81 [.ref (ad 0), .int p1] B0 adK adV D cy ad f sz (fun (r : Int32) (g : Nat → va_E) => True ∧ (TYx ad cy fr0 tx rby rnx g)) := by
  refine TtI.of (cc := cX8_back) (maxL := 2) (ty := .int) (own := RX8) (by decide) rfl (Nat.le_of_ble_eq_true rfl) rfl ?_
  intro p e s m below meth c A ls hx hb hr hml hts hown hlk hK hE hP hD hS hA hAB hl
  have hl : lv_has ls 2 [(0, .ref (ad 0)), (1, .int p1)] := hl
  refine st0 (fun H locs hP hS => ?_) hP hS
  refine lv_iload_n hx hb dX8_back_0 rfl (lv_at hl 1 rfl) ?_
  have ttl_0 := tl_0
  refine lv_if_lt (tgt := 20) hx hb dX8_back_1 (by decide) (fun c1 => ?_) (fun c1 => ?_)
  · have kc1 := c_lt c1
    refine lv_iconst (v := (-1)) hx hb dX8_back_20 (by decide) ?_
    have ttl_m1 := tl_m1
    exact tI hx hb hr hlk rfl hP hS ⟨trivial, hT⟩ dX8_back_21
  · have kc1 := c_nlt c1
    refine lv_iload_n hx hb dX8_back_4 rfl (lv_at hl 1 rfl) ?_
    refine lv_iconst (v := 3) hx hb dX8_back_5 (by decide) ?_
    have ttl_3 := tl_3
    refine lv_icmp_ge (tgt := 20) hx hb dX8_back_6 (by decide) (fun c2 => ?_) (fun c2 => ?_)
    · have kc2 := c_le c2
      refine lv_iconst (v := (-1)) hx hb dX8_back_20 (by decide) ?_
      have ttl_m1 := tl_m1
      exact tI hx hb hr hlk rfl hP hS ⟨trivial, hT⟩ dX8_back_21
    · have kc2 := c_nle c2
      refine lv_aload_n hx hb dX8_back_9 rfl (lv_at hl 0 rfl) ?_
      obtain ⟨t3, x5, x6, e8, h4, h7⟩ := (show okX8 ad tx 0 (f 0) from hT.1 0 (by decide))
      refine va_get (D := D) (cl := vwCl) (ci := 8) (v := .int x5) (C := RX8) (T := TX8) (N := 13) hx hb hts in_X8_back_X8 hown hK hP 0 (wl_at (by decide) e8) rfl 5 (by decide) (hts (.fieldLink RX8 96 "EightReasons" "filled" "I") (List.mem_of_getElem? (i := 1) rfl)) (fun _ h9 => h9) rfl dX8_back_10 ?_
      refine lv_iload_n hx hb dX8_back_13 rfl (lv_at hl 1 rfl) ?_
      refine tSI (As := [.int x5, .int p1]) (rest := []) ⟨hx, hb, hml, hown, hts⟩ hK hE hP hD hS hA hAB (s_X8_has_0 l B0 adK adV D cy ad f x5 p1 _) (va_cwS 2 hts gX8_back_X8_has rfl rfl rfl (by decide +kernel) ⟨Nat.le_of_ble_eq_true rfl, Nat.le_of_ble_eq_true rfl⟩) rfl hl.1 rfl (Nat.le_of_ble_eq_true rfl) dX8_back_14 ⟨Nat.le_of_ble_eq_true rfl, Nat.le_of_ble_eq_true rfl⟩ (fun r g H locs hw hP hD hS => ?_)
      obtain ⟨hrs, rfl⟩ := hw
      obtain ⟨x9, rfl⟩ : ∃ q, q = r := ⟨_, rfl⟩
      rcases hrs with rfl | rfl
      · refine lv_if_ne (tgt := 22) hx hb dX8_back_17 (by decide) (fun _ => ?_) (fun c => absurd c (by decide))
        refine lv_aload_n hx hb dX8_back_22 rfl (lv_at hl 0 rfl) ?_
        refine va_get (D := D) (cl := vwCl) (ci := 8) (v := .ref (ad 5)) (C := RX8) (T := TX8) (N := 13) hx hb hts in_X8_back_X8 hown hK hP 0 (wl_at (by decide) e8) rfl 2 (by decide) (hts (.fieldLink RX8 26 "EightReasons" "acts" "LEightReasons$Acts;") (List.mem_of_getElem? (i := 2) rfl)) (fun _ h9 => h9) rfl dX8_back_23 ?_
        obtain ⟨x10, x12, x13, e14, h11⟩ := (show okX0 ad 5 (f 5) from hT.1 5 (by decide))
        refine tVV (As := []) (rest := []) (i := 5) ⟨hx, hb, hml, hown, hts⟩ hK hE hP hD hS hA hAB (s_X0_forget_0 l B0 adK adV D cy ad fr0 tx rby rnx f hT _) (cwV 0 hts gX8_back_X0_forget rfl rfl rfl (by decide +kernel) ⟨Nat.le_of_ble_eq_true rfl, Nat.le_of_ble_eq_true rfl⟩) (by decide) 0 e14 rfl rfl hl.1 rfl (Nat.le_of_ble_eq_true rfl) dX8_back_26 ⟨Nat.le_of_ble_eq_true rfl, Nat.le_of_ble_eq_true rfl⟩ (fun f H locs hw hP hD hS => ?_)
        obtain ⟨hrs, hT⟩ := hw
        refine lv_aload_n hx hb dX8_back_29 rfl (lv_at hl 0 rfl) ?_
        obtain ⟨t15, x17, x18, e20, h16, h19⟩ := (show okX8 ad tx 0 (f 0) from hT.1 0 (by decide))
        refine tVR (As := []) (rest := []) (i := 0) ⟨hx, hb, hml, hown, hts⟩ hK hE hP hD hS hA hAB (s_X8_now_0 l B0 adK adV D cy ad fr0 tx rby rnx f hT _) (cwV 0 hts gX8_back_X8_now rfl rfl rfl (by decide +kernel) ⟨Nat.le_of_ble_eq_true rfl, Nat.le_of_ble_eq_true rfl⟩) (by decide) 8 e20 rfl rfl hl.1 rfl (Nat.le_of_ble_eq_true rfl) dX8_back_30 ⟨Nat.le_of_ble_eq_true rfl, Nat.le_of_ble_eq_true rfl⟩ (fun ra g H locs hw hra hP hD hS => ?_)
        obtain ⟨hrs, rfl⟩ := hw
        obtain ⟨t21, h22, rfl⟩ := hra
        refine lv_aload_n hx hb dX8_back_33 rfl (lv_at hl 0 rfl) ?_
        refine va_get (D := D) (cl := vwCl) (ci := 8) (v := .ref (ad 9)) (C := RX8) (T := TX8) (N := 13) hx hb hts in_X8_back_X8 hown hK hP 0 (wl_at (by decide) e20) rfl 4 (by decide) (hts (.fieldLink RX8 37 "EightReasons" "boxes" "[LEightReasons$State;") (List.mem_of_getElem? (i := 3) rfl)) (fun _ h9 => h9) rfl dX8_back_34 ?_
        refine lv_iload_n hx hb dX8_back_37 rfl (lv_at hl 1 rfl) ?_
        obtain ⟨g25, e23, h24⟩ := (show okS ad cy 3 142 (f 9) from hT.1 9 (by decide))
        have h27 := clampN (n := 3) (x := p1) (by omega) (by omega)
        refine va_aldq (C := RX4) hx hb hK hP 9 4 (wl_at (by decide) e23) rfl (vp_in_iff.mpr ⟨by omega, by omega⟩) dX8_back_38 (tpr (v := ad (142 + 2 * Int32.toNatClampNeg p1)) (h24 _ h27) ?_)
        have h26 : isState (142 + 2 * Int32.toNatClampNeg p1) := Or.inr ⟨41 + Int32.toNatClampNeg p1, by omega, by omega⟩
        obtain ⟨x28, x30, x31, x32, e33, h29⟩ := (ty_state hT h22)
        refine tVV (As := [.ref (ad (142 + 2 * Int32.toNatClampNeg p1))]) (rest := []) (i := t21) ⟨hx, hb, hml, hown, hts⟩ hK hE hP hD hS hA hAB (s_X4_copy_0 l B0 adK adV D cy ad fr0 tx rby rnx f hT t21 h22 (142 + 2 * Int32.toNatClampNeg p1) h26 _) (cwV 1 hts gX8_back_X4_copy rfl rfl rfl (by decide +kernel) ⟨Nat.le_of_ble_eq_true rfl, Nat.le_of_ble_eq_true rfl⟩) (x_lt (x_state0 h22)) 4 e33 rfl rfl hl.1 rfl (Nat.le_of_ble_eq_true rfl) dX8_back_39 ⟨Nat.le_of_ble_eq_true rfl, Nat.le_of_ble_eq_true rfl⟩ (fun f H locs hw hP hD hS => ?_)
        obtain ⟨hrs, hT⟩ := hw
        refine lv_aload_n hx hb dX8_back_42 rfl (lv_at hl 0 rfl) ?_
        obtain ⟨t34, x36, x37, e39, h35, h38⟩ := (show okX8 ad tx 0 (f 0) from hT.1 0 (by decide))
        refine tVR (As := []) (rest := []) (i := 0) ⟨hx, hb, hml, hown, hts⟩ hK hE hP hD hS hA hAB (s_X8_now_0 l B0 adK adV D cy ad fr0 tx rby rnx f hT _) (cwV 0 hts gX8_back_X8_now rfl rfl rfl (by decide +kernel) ⟨Nat.le_of_ble_eq_true rfl, Nat.le_of_ble_eq_true rfl⟩) (by decide) 8 e39 rfl rfl hl.1 rfl (Nat.le_of_ble_eq_true rfl) dX8_back_43 ⟨Nat.le_of_ble_eq_true rfl, Nat.le_of_ble_eq_true rfl⟩ (fun ra g H locs hw hra hP hD hS => ?_)
        obtain ⟨hrs, rfl⟩ := hw
        obtain ⟨t40, h41, rfl⟩ := hra
        obtain ⟨x42, x44, x45, x46, e47, h43⟩ := (ty_state hT h41)
        refine va_get (D := D) (cl := vwCl) (ci := 4) (v := .int x45) (C := RX4) (T := TX4) (N := 5) hx hb hts in_X8_back_X4 hown hK hP t40 (wl_at (x_lt (x_state0 h41)) e47) rfl 3 (by decide) (hts (.fieldLink RX8 160 "EightReasons$State" "day" "I") (List.mem_of_getElem? (i := 4) rfl)) (fun _ h9 => h9) rfl dX8_back_46 ?_
        exact tI hx hb hr hlk rfl hP hS ⟨trivial, hT⟩ dX8_back_49
      · refine lv_if_ne (tgt := 22) hx hb dX8_back_17 (by decide) (fun c => absurd (by decide) c) (fun _ => ?_)
        refine lv_iconst (v := (-1)) hx hb dX8_back_20 (by decide) ?_
        have ttl_m1 := tl_m1
        exact tI hx hb hr hlk rfl hP hS ⟨trivial, hT⟩ dX8_back_21
set_option maxHeartbeats 4000000 in
set_option maxRecDepth 100000 in
theorem s_X8_about_0 (l : Launch) (B0 : Nat) (adK adV : Nat → Nat) (D : va_G) (cy : Nat → ClassId) (ad : Nat → Nat) (fr0 : Nat → va_E) (tx : Int32) (rby : Int32) (rnx : Int32) (f : Nat → va_E) (hT : TYx ad cy fr0 tx rby rnx f) (p1 : Int32) (sz : Nat) : TtI l yX8_about wsX8_about 2 40 [.ref (ad 0), .int p1] B0 adK adV D cy ad f sz (fun (r : Int32) (g : Nat → va_E) => True ∧ (f = g)) := by
  refine TtI.of (cc := cX8_about) (maxL := 2) (ty := .int) (own := RX8) (by decide) rfl (Nat.le_of_ble_eq_true rfl) rfl ?_
  intro p e s m below meth c A ls hx hb hr hml hts hown hlk hK hE hP hD hS hA hAB hl
  have hl : lv_has ls 2 [(0, .ref (ad 0)), (1, .int p1)] := hl
  refine st0 (fun H locs hP hS => ?_) hP hS
  refine lv_iload_n hx hb dX8_about_0 rfl (lv_at hl 1 rfl) ?_
  rcases sw_0_14 p1 with c1 | c1 | c1 | c1 | c1 | c1 | c1 | c1 | c1 | c1 | c1 | c1 | c1 | c1 | c1 | c1
  · refine lv_tableOut (tgt := 193) hx hb dX8_about_1 c1 (by decide) ?_
    refine lv_iconst (v := (-1)) hx hb dX8_about_193 (by decide) ?_
    have ttl_m1 := tl_m1
    exact tI hx hb hr hlk rfl hP hS ⟨trivial, rfl⟩ dX8_about_194
  · have kc1 := (c_eq c1).trans tl_0
    refine lv_tableIn (off := 75) (tgt := 76) hx hb dX8_about_1 (by rw [kc1]; decide) (by rw [kc1]; decide) (by rw [kc1]; decide) (by decide) ?_
    refine lv_aload_n hx hb dX8_about_76 rfl (lv_at hl 0 rfl) ?_
    obtain ⟨t2, x4, x5, e7, h3, h6⟩ := (show okX8 ad tx 0 (f 0) from hT.1 0 (by decide))
    refine va_get (D := D) (cl := vwCl) (ci := 8) (v := .ref (ad t2)) (C := RX8) (T := TX8) (N := 13) hx hb hts in_X8_about_X8 hown hK hP 0 (wl_at (by decide) e7) rfl 1 (by decide) (hts (.fieldLink RX8 19 "EightReasons" "told" "LEightReasons$Suit;") (List.mem_of_getElem? (i := 1) rfl)) (fun _ h9 => h9) rfl dX8_about_77 ?_
    obtain ⟨x8, x10, x11, x13, x14, e15, h9, h12⟩ := (ty_suit hT h3)
    refine va_get (D := D) (cl := vwCl) (ci := 5) (v := .int x8) (C := RX5) (T := TX5) (N := 12) hx hb hts in_X8_about_X5 hown hK hP t2 (wl_at (x_lt (x_suit0 h3)) e15) rfl 0 (by decide) (hts (.fieldLink RX8 105 "EightReasons$Suit" "points" "I") (List.mem_of_getElem? (i := 2) rfl)) (fun _ h9 => h9) rfl dX8_about_80 ?_
    exact tI hx hb hr hlk rfl hP hS ⟨trivial, rfl⟩ dX8_about_83
  · have kc1 := (c_eq c1).trans tl_1
    refine lv_tableIn (off := 83) (tgt := 84) hx hb dX8_about_1 (by rw [kc1]; decide) (by rw [kc1]; decide) (by rw [kc1]; decide) (by decide) ?_
    refine lv_aload_n hx hb dX8_about_84 rfl (lv_at hl 0 rfl) ?_
    obtain ⟨t16, x18, x19, e21, h17, h20⟩ := (show okX8 ad tx 0 (f 0) from hT.1 0 (by decide))
    refine va_get (D := D) (cl := vwCl) (ci := 8) (v := .ref (ad t16)) (C := RX8) (T := TX8) (N := 13) hx hb hts in_X8_about_X8 hown hK hP 0 (wl_at (by decide) e21) rfl 1 (by decide) (hts (.fieldLink RX8 19 "EightReasons" "told" "LEightReasons$Suit;") (List.mem_of_getElem? (i := 1) rfl)) (fun _ h9 => h9) rfl dX8_about_85 ?_
    obtain ⟨x22, x24, x25, x27, x28, e29, h23, h26⟩ := (ty_suit hT h17)
    refine va_get (D := D) (cl := vwCl) (ci := 5) (v := .int x25) (C := RX5) (T := TX5) (N := 12) hx hb hts in_X8_about_X5 hown hK hP t16 (wl_at (x_lt (x_suit0 h17)) e29) rfl 2 (by decide) (hts (.fieldLink RX8 157 "EightReasons$Suit" "strands" "I") (List.mem_of_getElem? (i := 3) rfl)) (fun _ h9 => h9) rfl dX8_about_88 ?_
    exact tI hx hb hr hlk rfl hP hS ⟨trivial, rfl⟩ dX8_about_91
  · have kc1 := (c_eq c1).trans tl_2
    refine lv_tableIn (off := 91) (tgt := 92) hx hb dX8_about_1 (by rw [kc1]; decide) (by rw [kc1]; decide) (by rw [kc1]; decide) (by decide) ?_
    refine lv_aload_n hx hb dX8_about_92 rfl (lv_at hl 0 rfl) ?_
    obtain ⟨t30, x32, x33, e35, h31, h34⟩ := (show okX8 ad tx 0 (f 0) from hT.1 0 (by decide))
    refine va_get (D := D) (cl := vwCl) (ci := 8) (v := .ref (ad t30)) (C := RX8) (T := TX8) (N := 13) hx hb hts in_X8_about_X8 hown hK hP 0 (wl_at (by decide) e35) rfl 1 (by decide) (hts (.fieldLink RX8 19 "EightReasons" "told" "LEightReasons$Suit;") (List.mem_of_getElem? (i := 1) rfl)) (fun _ h9 => h9) rfl dX8_about_93 ?_
    obtain ⟨x36, x38, x39, x41, x42, e43, h37, h40⟩ := (ty_suit hT h31)
    refine va_get (D := D) (cl := vwCl) (ci := 5) (v := .int x38) (C := RX5) (T := TX5) (N := 12) hx hb hts in_X8_about_X5 hown hK hP t30 (wl_at (x_lt (x_suit0 h31)) e43) rfl 1 (by decide) (hts (.fieldLink RX8 118 "EightReasons$Suit" "facts" "I") (List.mem_of_getElem? (i := 4) rfl)) (fun _ h9 => h9) rfl dX8_about_96 ?_
    exact tI hx hb hr hlk rfl hP hS ⟨trivial, rfl⟩ dX8_about_99
  · have kc1 := (c_eq c1).trans tl_3
    refine lv_tableIn (off := 99) (tgt := 100) hx hb dX8_about_1 (by rw [kc1]; decide) (by rw [kc1]; decide) (by rw [kc1]; decide) (by decide) ?_
    refine lv_aload_n hx hb dX8_about_100 rfl (lv_at hl 0 rfl) ?_
    obtain ⟨t44, x46, x47, e49, h45, h48⟩ := (show okX8 ad tx 0 (f 0) from hT.1 0 (by decide))
    refine tVR (As := []) (rest := []) (i := 0) ⟨hx, hb, hml, hown, hts⟩ hK hE hP hD hS hA hAB (s_X8_now_0 l B0 adK adV D cy ad fr0 tx rby rnx f hT _) (cwV 0 hts gX8_about_X8_now rfl rfl rfl (by decide +kernel) ⟨Nat.le_of_ble_eq_true rfl, Nat.le_of_ble_eq_true rfl⟩) (by decide) 8 e49 rfl rfl hl.1 rfl (Nat.le_of_ble_eq_true rfl) dX8_about_101 ⟨Nat.le_of_ble_eq_true rfl, Nat.le_of_ble_eq_true rfl⟩ (fun ra g H locs hw hra hP hD hS => ?_)
    obtain ⟨hrs, rfl⟩ := hw
    obtain ⟨t50, h51, rfl⟩ := hra
    obtain ⟨x52, x54, x55, x56, e57, h53⟩ := (ty_state hT h51)
    refine va_get (D := D) (cl := vwCl) (ci := 4) (v := .int x54) (C := RX4) (T := TX4) (N := 5) hx hb hts in_X8_about_X4 hown hK hP t50 (wl_at (x_lt (x_state0 h51)) e57) rfl 2 (by decide) (hts (.fieldLink RX8 124 "EightReasons$State" "struck" "I") (List.mem_of_getElem? (i := 5) rfl)) (fun _ h9 => h9) rfl dX8_about_104 ?_
    exact tI hx hb hr hlk rfl hP hS ⟨trivial, rfl⟩ dX8_about_107
  · have kc1 := (c_eq c1).trans tl_4
    refine lv_tableIn (off := 107) (tgt := 108) hx hb dX8_about_1 (by rw [kc1]; decide) (by rw [kc1]; decide) (by rw [kc1]; decide) (by decide) ?_
    refine lv_aload_n hx hb dX8_about_108 rfl (lv_at hl 0 rfl) ?_
    obtain ⟨t58, x60, x61, e63, h59, h62⟩ := (show okX8 ad tx 0 (f 0) from hT.1 0 (by decide))
    refine tVR (As := []) (rest := []) (i := 0) ⟨hx, hb, hml, hown, hts⟩ hK hE hP hD hS hA hAB (s_X8_now_0 l B0 adK adV D cy ad fr0 tx rby rnx f hT _) (cwV 0 hts gX8_about_X8_now rfl rfl rfl (by decide +kernel) ⟨Nat.le_of_ble_eq_true rfl, Nat.le_of_ble_eq_true rfl⟩) (by decide) 8 e63 rfl rfl hl.1 rfl (Nat.le_of_ble_eq_true rfl) dX8_about_109 ⟨Nat.le_of_ble_eq_true rfl, Nat.le_of_ble_eq_true rfl⟩ (fun ra g H locs hw hra hP hD hS => ?_)
    obtain ⟨hrs, rfl⟩ := hw
    obtain ⟨t64, h65, rfl⟩ := hra
    obtain ⟨x66, x68, x69, x70, e71, h67⟩ := (ty_state hT h65)
    refine va_get (D := D) (cl := vwCl) (ci := 4) (v := .int x66) (C := RX4) (T := TX4) (N := 5) hx hb hts in_X8_about_X4 hown hK hP t64 (wl_at (x_lt (x_state0 h65)) e71) rfl 1 (by decide) (hts (.fieldLink RX8 145 "EightReasons$State" "tied" "I") (List.mem_of_getElem? (i := 6) rfl)) (fun _ h9 => h9) rfl dX8_about_112 ?_
    exact tI hx hb hr hlk rfl hP hS ⟨trivial, rfl⟩ dX8_about_115
  · have kc1 := (c_eq c1).trans tl_5
    refine lv_tableIn (off := 115) (tgt := 116) hx hb dX8_about_1 (by rw [kc1]; decide) (by rw [kc1]; decide) (by rw [kc1]; decide) (by decide) ?_
    refine lv_aload_n hx hb dX8_about_116 rfl (lv_at hl 0 rfl) ?_
    obtain ⟨t72, x74, x75, e77, h73, h76⟩ := (show okX8 ad tx 0 (f 0) from hT.1 0 (by decide))
    refine tVR (As := []) (rest := []) (i := 0) ⟨hx, hb, hml, hown, hts⟩ hK hE hP hD hS hA hAB (s_X8_now_0 l B0 adK adV D cy ad fr0 tx rby rnx f hT _) (cwV 0 hts gX8_about_X8_now rfl rfl rfl (by decide +kernel) ⟨Nat.le_of_ble_eq_true rfl, Nat.le_of_ble_eq_true rfl⟩) (by decide) 8 e77 rfl rfl hl.1 rfl (Nat.le_of_ble_eq_true rfl) dX8_about_117 ⟨Nat.le_of_ble_eq_true rfl, Nat.le_of_ble_eq_true rfl⟩ (fun ra g H locs hw hra hP hD hS => ?_)
    obtain ⟨hrs, rfl⟩ := hw
    obtain ⟨t78, h79, rfl⟩ := hra
    obtain ⟨x80, x82, x83, x84, e85, h81⟩ := (ty_state hT h79)
    refine va_get (D := D) (cl := vwCl) (ci := 4) (v := .int x83) (C := RX4) (T := TX4) (N := 5) hx hb hts in_X8_about_X4 hown hK hP t78 (wl_at (x_lt (x_state0 h79)) e85) rfl 3 (by decide) (hts (.fieldLink RX8 160 "EightReasons$State" "day" "I") (List.mem_of_getElem? (i := 7) rfl)) (fun _ h9 => h9) rfl dX8_about_120 ?_
    exact tI hx hb hr hlk rfl hP hS ⟨trivial, rfl⟩ dX8_about_123
  · have kc1 := (c_eq c1).trans tl_6
    refine lv_tableIn (off := 123) (tgt := 124) hx hb dX8_about_1 (by rw [kc1]; decide) (by rw [kc1]; decide) (by rw [kc1]; decide) (by decide) ?_
    refine lv_aload_n hx hb dX8_about_124 rfl (lv_at hl 0 rfl) ?_
    obtain ⟨t86, x88, x89, e91, h87, h90⟩ := (show okX8 ad tx 0 (f 0) from hT.1 0 (by decide))
    refine tVR (As := []) (rest := []) (i := 0) ⟨hx, hb, hml, hown, hts⟩ hK hE hP hD hS hA hAB (s_X8_now_0 l B0 adK adV D cy ad fr0 tx rby rnx f hT _) (cwV 0 hts gX8_about_X8_now rfl rfl rfl (by decide +kernel) ⟨Nat.le_of_ble_eq_true rfl, Nat.le_of_ble_eq_true rfl⟩) (by decide) 8 e91 rfl rfl hl.1 rfl (Nat.le_of_ble_eq_true rfl) dX8_about_125 ⟨Nat.le_of_ble_eq_true rfl, Nat.le_of_ble_eq_true rfl⟩ (fun ra g H locs hw hra hP hD hS => ?_)
    obtain ⟨hrs, rfl⟩ := hw
    obtain ⟨t92, h93, rfl⟩ := hra
    obtain ⟨x94, x96, x97, x98, e99, h95⟩ := (ty_state hT h93)
    refine va_get (D := D) (cl := vwCl) (ci := 4) (v := .int x98) (C := RX4) (T := TX4) (N := 5) hx hb hts in_X8_about_X4 hown hK hP t92 (wl_at (x_lt (x_state0 h93)) e99) rfl 4 (by decide) (hts (.fieldLink RX8 163 "EightReasons$State" "seed" "I") (List.mem_of_getElem? (i := 8) rfl)) (fun _ h9 => h9) rfl dX8_about_128 ?_
    exact tI hx hb hr hlk rfl hP hS ⟨trivial, rfl⟩ dX8_about_131
  · have kc1 := (c_eq c1).trans tl_7
    refine lv_tableIn (off := 131) (tgt := 132) hx hb dX8_about_1 (by rw [kc1]; decide) (by rw [kc1]; decide) (by rw [kc1]; decide) (by decide) ?_
    refine lv_aload_n hx hb dX8_about_132 rfl (lv_at hl 0 rfl) ?_
    obtain ⟨t100, x102, x103, e105, h101, h104⟩ := (show okX8 ad tx 0 (f 0) from hT.1 0 (by decide))
    refine va_get (D := D) (cl := vwCl) (ci := 8) (v := .ref (ad 5)) (C := RX8) (T := TX8) (N := 13) hx hb hts in_X8_about_X8 hown hK hP 0 (wl_at (by decide) e105) rfl 2 (by decide) (hts (.fieldLink RX8 26 "EightReasons" "acts" "LEightReasons$Acts;") (List.mem_of_getElem? (i := 9) rfl)) (fun _ h9 => h9) rfl dX8_about_133 ?_
    obtain ⟨x106, x108, x109, e110, h107⟩ := (show okX0 ad 5 (f 5) from hT.1 5 (by decide))
    refine va_get (D := D) (cl := vwCl) (ci := 0) (v := .int x108) (C := RX0) (T := TX0) (N := 4) hx hb hts in_X8_about_X0 hown hK hP 5 (wl_at (by decide) e110) rfl 2 (by decide) (hts (.fieldLink RX8 166 "EightReasons$Acts" "undoable" "I") (List.mem_of_getElem? (i := 10) rfl)) (fun _ h9 => h9) rfl dX8_about_136 ?_
    exact tI hx hb hr hlk rfl hP hS ⟨trivial, rfl⟩ dX8_about_139
  · have kc1 := (c_eq c1).trans tl_8
    refine lv_tableIn (off := 139) (tgt := 140) hx hb dX8_about_1 (by rw [kc1]; decide) (by rw [kc1]; decide) (by rw [kc1]; decide) (by decide) ?_
    refine lv_aload_n hx hb dX8_about_140 rfl (lv_at hl 0 rfl) ?_
    obtain ⟨t111, x113, x114, e116, h112, h115⟩ := (show okX8 ad tx 0 (f 0) from hT.1 0 (by decide))
    refine va_get (D := D) (cl := vwCl) (ci := 8) (v := .ref (ad 5)) (C := RX8) (T := TX8) (N := 13) hx hb hts in_X8_about_X8 hown hK hP 0 (wl_at (by decide) e116) rfl 2 (by decide) (hts (.fieldLink RX8 26 "EightReasons" "acts" "LEightReasons$Acts;") (List.mem_of_getElem? (i := 9) rfl)) (fun _ h9 => h9) rfl dX8_about_141 ?_
    obtain ⟨x117, x119, x120, e121, h118⟩ := (show okX0 ad 5 (f 5) from hT.1 5 (by decide))
    refine va_get (D := D) (cl := vwCl) (ci := 0) (v := .int x120) (C := RX0) (T := TX0) (N := 4) hx hb hts in_X8_about_X0 hown hK hP 5 (wl_at (by decide) e121) rfl 3 (by decide) (hts (.fieldLink RX8 169 "EightReasons$Acts" "redoable" "I") (List.mem_of_getElem? (i := 11) rfl)) (fun _ h9 => h9) rfl dX8_about_144 ?_
    exact tI hx hb hr hlk rfl hP hS ⟨trivial, rfl⟩ dX8_about_147
  · have kc1 := (c_eq c1).trans tl_9
    refine lv_tableIn (off := 147) (tgt := 148) hx hb dX8_about_1 (by rw [kc1]; decide) (by rw [kc1]; decide) (by rw [kc1]; decide) (by decide) ?_
    refine lv_aload_n hx hb dX8_about_148 rfl (lv_at hl 0 rfl) ?_
    obtain ⟨t122, x124, x125, e127, h123, h126⟩ := (show okX8 ad tx 0 (f 0) from hT.1 0 (by decide))
    refine va_get (D := D) (cl := vwCl) (ci := 8) (v := .ref (ad 19)) (C := RX8) (T := TX8) (N := 13) hx hb hts in_X8_about_X8 hown hK hP 0 (wl_at (by decide) e127) rfl 10 (by decide) (hts (.fieldLink RX8 58 "EightReasons" "witness" "LEightReasons$Witness;") (List.mem_of_getElem? (i := 12) rfl)) (fun _ h9 => h9) rfl dX8_about_149 ?_
    obtain ⟨x128, e130, h129⟩ := (show okX7 ad 19 (f 19) from hT.1 19 (by decide))
    refine va_get (D := D) (cl := vwCl) (ci := 7) (v := .int x128) (C := RX7) (T := TX7) (N := 5) hx hb hts in_X8_about_X7 hown hK hP 19 (wl_at (by decide) e130) rfl 0 (by decide) (hts (.fieldLink RX8 99 "EightReasons$Witness" "count" "I") (List.mem_of_getElem? (i := 13) rfl)) (fun _ h9 => h9) rfl dX8_about_152 ?_
    exact tI hx hb hr hlk rfl hP hS ⟨trivial, rfl⟩ dX8_about_155
  · have kc1 := (c_eq c1).trans tl_10
    refine lv_tableIn (off := 155) (tgt := 156) hx hb dX8_about_1 (by rw [kc1]; decide) (by rw [kc1]; decide) (by rw [kc1]; decide) (by decide) ?_
    refine lv_aload_n hx hb dX8_about_156 rfl (lv_at hl 0 rfl) ?_
    obtain ⟨t131, x133, x134, e136, h132, h135⟩ := (show okX8 ad tx 0 (f 0) from hT.1 0 (by decide))
    refine va_get (D := D) (cl := vwCl) (ci := 8) (v := .int tx) (C := RX8) (T := TX8) (N := 13) hx hb hts in_X8_about_X8 hown hK hP 0 (wl_at (by decide) e136) rfl 12 (by decide) (hts (.fieldLink RX8 172 "EightReasons" "time" "I") (List.mem_of_getElem? (i := 14) rfl)) (fun _ h9 => h9) rfl dX8_about_157 ?_
    exact tI hx hb hr hlk rfl hP hS ⟨trivial, rfl⟩ dX8_about_160
  · have kc1 := (c_eq c1).trans tl_11
    refine lv_tableIn (off := 160) (tgt := 161) hx hb dX8_about_1 (by rw [kc1]; decide) (by rw [kc1]; decide) (by rw [kc1]; decide) (by decide) ?_
    refine lv_aload_n hx hb dX8_about_161 rfl (lv_at hl 0 rfl) ?_
    obtain ⟨t137, x139, x140, e142, h138, h141⟩ := (show okX8 ad tx 0 (f 0) from hT.1 0 (by decide))
    refine va_get (D := D) (cl := vwCl) (ci := 8) (v := .ref (ad 1)) (C := RX8) (T := TX8) (N := 13) hx hb hts in_X8_about_X8 hown hK hP 0 (wl_at (by decide) e142) rfl 0 (by decide) (hts (.fieldLink RX8 10 "EightReasons" "reader" "LEightReasons$Reader;") (List.mem_of_getElem? (i := 15) rfl)) (fun _ h9 => h9) rfl dX8_about_162 ?_
    obtain ⟨x143, x144, t146, x148, x150, x151, x152, y153, e154, h145, h147, h149⟩ := (show okX3 ad rby rnx 1 (f 1) from hT.1 1 (by decide))
    refine va_get (D := D) (cl := vwCl) (ci := 3) (v := .int rby) (C := RX3) (T := TX3) (N := 13) hx hb hts in_X8_about_X3 hown hK hP 1 (wl_at (by decide) e154) rfl 2 (by decide) (hts (.fieldLink RX8 69 "EightReasons$Reader" "bytes" "I") (List.mem_of_getElem? (i := 16) rfl)) (fun _ h9 => h9) rfl dX8_about_165 ?_
    exact tI hx hb hr hlk rfl hP hS ⟨trivial, rfl⟩ dX8_about_168
  · have kc1 := (c_eq c1).trans tl_12
    refine lv_tableIn (off := 168) (tgt := 169) hx hb dX8_about_1 (by rw [kc1]; decide) (by rw [kc1]; decide) (by rw [kc1]; decide) (by decide) ?_
    refine lv_aload_n hx hb dX8_about_169 rfl (lv_at hl 0 rfl) ?_
    obtain ⟨t155, x157, x158, e160, h156, h159⟩ := (show okX8 ad tx 0 (f 0) from hT.1 0 (by decide))
    refine va_get (D := D) (cl := vwCl) (ci := 8) (v := .ref (ad t155)) (C := RX8) (T := TX8) (N := 13) hx hb hts in_X8_about_X8 hown hK hP 0 (wl_at (by decide) e160) rfl 1 (by decide) (hts (.fieldLink RX8 19 "EightReasons" "told" "LEightReasons$Suit;") (List.mem_of_getElem? (i := 1) rfl)) (fun _ h9 => h9) rfl dX8_about_170 ?_
    obtain ⟨x161, x163, x164, x166, x167, e168, h162, h165⟩ := (ty_suit hT h156)
    refine va_get (D := D) (cl := vwCl) (ci := 5) (v := .ref (ad (t155 + 7))) (C := RX5) (T := TX5) (N := 12) hx hb hts in_X8_about_X5 hown hK hP t155 (wl_at (x_lt (x_suit0 h156)) e168) rfl 11 (by decide) (hts (.fieldLink RX8 175 "EightReasons$Suit" "formula" "LEightReasons$Formula;") (List.mem_of_getElem? (i := 17) rfl)) (fun _ h9 => h9) rfl dX8_about_173 ?_
    obtain ⟨x169, x171, x172, e174, h170, h173⟩ := (ty_suit7 hT h156)
    refine va_get (D := D) (cl := vwCl) (ci := 1) (v := .int x171) (C := RX1) (T := TX1) (N := 6) hx hb hts in_X8_about_X1 hown hK hP (t155 + 7) (wl_at (x_lt (x_suit h156 (by decide))) e174) rfl 2 (by decide) (hts (.fieldLink RX8 179 "EightReasons$Formula" "units" "I") (List.mem_of_getElem? (i := 18) rfl)) (fun _ h9 => h9) rfl dX8_about_176 ?_
    exact tI hx hb hr hlk rfl hP hS ⟨trivial, rfl⟩ dX8_about_179
  · have kc1 := (c_eq c1).trans tl_13
    refine lv_tableIn (off := 179) (tgt := 180) hx hb dX8_about_1 (by rw [kc1]; decide) (by rw [kc1]; decide) (by rw [kc1]; decide) (by decide) ?_
    refine lv_aload_n hx hb dX8_about_180 rfl (lv_at hl 0 rfl) ?_
    obtain ⟨t175, x177, x178, e180, h176, h179⟩ := (show okX8 ad tx 0 (f 0) from hT.1 0 (by decide))
    refine va_get (D := D) (cl := vwCl) (ci := 8) (v := .ref (ad t175)) (C := RX8) (T := TX8) (N := 13) hx hb hts in_X8_about_X8 hown hK hP 0 (wl_at (by decide) e180) rfl 1 (by decide) (hts (.fieldLink RX8 19 "EightReasons" "told" "LEightReasons$Suit;") (List.mem_of_getElem? (i := 1) rfl)) (fun _ h9 => h9) rfl dX8_about_181 ?_
    obtain ⟨x181, x183, x184, x186, x187, e188, h182, h185⟩ := (ty_suit hT h176)
    refine va_get (D := D) (cl := vwCl) (ci := 5) (v := .int x186) (C := RX5) (T := TX5) (N := 12) hx hb hts in_X8_about_X5 hown hK hP t175 (wl_at (x_lt (x_suit0 h176)) e188) rfl 3 (by decide) (hts (.fieldLink RX8 184 "EightReasons$Suit" "fray" "I") (List.mem_of_getElem? (i := 19) rfl)) (fun _ h9 => h9) rfl dX8_about_184 ?_
    exact tI hx hb hr hlk rfl hP hS ⟨trivial, rfl⟩ dX8_about_187
  · have kc1 := (c_eq c1).trans tl_14
    refine lv_tableIn (off := 187) (tgt := 188) hx hb dX8_about_1 (by rw [kc1]; decide) (by rw [kc1]; decide) (by rw [kc1]; decide) (by decide) ?_
    refine lv_aload_n hx hb dX8_about_188 rfl (lv_at hl 0 rfl) ?_
    obtain ⟨t189, x191, x192, e194, h190, h193⟩ := (show okX8 ad tx 0 (f 0) from hT.1 0 (by decide))
    refine va_get (D := D) (cl := vwCl) (ci := 8) (v := .int x192) (C := RX8) (T := TX8) (N := 13) hx hb hts in_X8_about_X8 hown hK hP 0 (wl_at (by decide) e194) rfl 9 (by decide) (hts (.fieldLink RX8 102 "EightReasons" "lyingCount" "I") (List.mem_of_getElem? (i := 20) rfl)) (fun _ h9 => h9) rfl dX8_about_189 ?_
    exact tI hx hb hr hlk rfl hP hS ⟨trivial, rfl⟩ dX8_about_192
