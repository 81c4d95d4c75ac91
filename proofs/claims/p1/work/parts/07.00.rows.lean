theorem tl_60 : (60 : Int32).toInt = 60 := by decide
set_option maxRecDepth 20000 in
theorem ggX8_will_X8_isZeroOrOne : GoodIn wsX8_will wsX8_isZeroOrOne := goodIn_r _ [9] (by decide +kernel) (by decide +kernel)
set_option maxRecDepth 20000 in
theorem gX8_will_X8_isZeroOrOne : GoodIn wsX8_will (va_wsS RX8 234 yX8_isZeroOrOne wsX8_isZeroOrOne) := goodIn_app (goodIn_of _ (by decide +kernel)) ggX8_will_X8_isZeroOrOne
set_option maxRecDepth 20000 in
theorem ggX8_will_X8_now : GoodIn wsX8_will wsX8_now := goodIn_r _ [13, 14, 15, 16, 17, 18, 19, 20, 21, 146, 147, 148, 149, 150, 151, 152, 153, 154, 155, 156, 157, 158, 164, 165, 166, 167] (by decide +kernel) (by decide +kernel)
set_option maxRecDepth 20000 in
theorem gX8_will_X8_now : GoodIn wsX8_will (wsV RX8 88 RX8 yX8_now wsX8_now) := goodIn_app (goodIn_of _ (by decide +kernel)) ggX8_will_X8_now
set_option maxRecDepth 20000 in
theorem ggX8_will_X4_copy : GoodIn wsX8_will wsX4_copy := goodIn_r _ [26, 27, 28, 29, 30, 31, 32, 33, 34, 35, 159, 160, 161, 162, 163] (by decide +kernel) (by decide +kernel)
set_option maxRecDepth 20000 in
theorem gX8_will_X4_copy : GoodIn wsX8_will (wsV RX8 216 RX4 yX4_copy wsX4_copy) := goodIn_app (goodIn_of _ (by decide +kernel)) ggX8_will_X4_copy
set_option maxRecDepth 20000 in
theorem ggX8_will_X4_pass : GoodIn wsX8_will wsX4_pass := goodIn_r _ [39, 34, 40, 32, 27, 35, 41, 42, 8, 43, 159, 160, 161, 162, 163, 168, 169, 170, 171, 172, 173, 174, 175, 176, 177, 178, 179] (by decide +kernel) (by decide +kernel)
set_option maxRecDepth 20000 in
theorem gX8_will_X4_pass : GoodIn wsX8_will (wsV RX8 206 RX4 yX4_pass wsX4_pass) := goodIn_app (goodIn_of _ (by decide +kernel)) ggX8_will_X4_pass
set_option maxRecDepth 20000 in
theorem ggX8_will_X2_take : GoodIn wsX8_will wsX2_take := goodIn_r _ [48, 49, 50, 51, 52, 53, 54, 55, 56, 57, 29, 30, 31, 58, 59, 60, 180, 181, 182, 183, 184, 185, 186, 187, 188, 189, 168, 169, 170, 171, 172, 173, 174, 175, 176, 177, 178, 179, 159, 160, 161, 162, 163] (by decide +kernel) (by decide +kernel)
set_option maxRecDepth 20000 in
theorem gX8_will_X2_take : GoodIn wsX8_will (wsV RX8 237 RX2 yX2_take wsX2_take) := goodIn_app (goodIn_of _ (by decide +kernel)) ggX8_will_X2_take
set_option maxRecDepth 20000 in
theorem ggX8_will_X2_standing : GoodIn wsX8_will wsX2_standing := goodIn_r _ [64, 52, 49, 65, 66, 67, 47, 68, 69, 56, 70, 42, 8, 43, 71, 72, 73, 74, 75, 76, 77, 78, 79, 80, 81, 60, 59, 54, 82, 83, 84, 85, 86, 87, 88, 89, 90, 91, 92, 93, 94, 95, 96, 97, 98, 99, 100, 101, 102, 103, 104, 105, 106, 107, 108, 109, 110, 111, 112, 113, 114, 115, 116, 117, 118, 119, 120, 121, 122, 123, 124, 125, 126, 127, 128, 129, 130, 131, 132, 133, 134, 135, 136, 137, 138, 139, 140, 141, 142, 143, 144, 145, 180, 181, 182, 183, 184, 185, 186, 187, 188, 189, 168, 169, 170, 171, 172, 173, 174, 175, 176, 177, 178, 179, 190, 191, 192, 193, 194, 195] (by decide +kernel) (by decide +kernel)
set_option maxRecDepth 20000 in
theorem gX8_will_X2_standing : GoodIn wsX8_will (wsV RX8 231 RX2 yX2_standing wsX2_standing) := goodIn_app (goodIn_of _ (by decide +kernel)) ggX8_will_X2_standing
theorem dX8_will_0 : decode cX8_will 0 = .ok (.iload_n 1, 1) := by decide +kernel
theorem dX8_will_1 : decode cX8_will 1 = .ok (.ifCond .lt 16, 3) := by decide +kernel
theorem dX8_will_4 : decode cX8_will 4 = .ok (.iload_n 1, 1) := by decide +kernel
theorem dX8_will_5 : decode cX8_will 5 = .ok (.bipush 60, 2) := by decide +kernel
theorem dX8_will_7 : decode cX8_will 7 = .ok (.if_icmp .gt 10, 3) := by decide +kernel
theorem dX8_will_10 : decode cX8_will 10 = .ok (.iload_n 2, 1) := by decide +kernel
theorem dX8_will_11 : decode cX8_will 11 = .ok (.invokestatic 234, 3) := by decide +kernel
theorem dX8_will_14 : decode cX8_will 14 = .ok (.ifCond .ne 5, 3) := by decide +kernel
theorem dX8_will_17 : decode cX8_will 17 = .ok (.iconst (-1), 1) := by decide +kernel
theorem dX8_will_18 : decode cX8_will 18 = .ok (.ireturn, 1) := by decide +kernel
theorem dX8_will_19 : decode cX8_will 19 = .ok (.aload_n 0, 1) := by decide +kernel
theorem dX8_will_20 : decode cX8_will 20 = .ok (.getfield 33, 3) := by decide +kernel
theorem dX8_will_23 : decode cX8_will 23 = .ok (.aload_n 0, 1) := by decide +kernel
theorem dX8_will_24 : decode cX8_will 24 = .ok (.invokevirtual 88, 3) := by decide +kernel
theorem dX8_will_27 : decode cX8_will 27 = .ok (.invokevirtual 216, 3) := by decide +kernel
theorem dX8_will_30 : decode cX8_will 30 = .ok (.iconst 0, 1) := by decide +kernel
theorem dX8_will_31 : decode cX8_will 31 = .ok (.istore_n 3, 1) := by decide +kernel
theorem dX8_will_32 : decode cX8_will 32 = .ok (.iload_n 3, 1) := by decide +kernel
theorem dX8_will_33 : decode cX8_will 33 = .ok (.iload_n 1, 1) := by decide +kernel
theorem dX8_will_34 : decode cX8_will 34 = .ok (.if_icmp .ge 42, 3) := by decide +kernel
theorem dX8_will_37 : decode cX8_will 37 = .ok (.iload_n 2, 1) := by decide +kernel
theorem dX8_will_38 : decode cX8_will 38 = .ok (.iconst 1, 1) := by decide +kernel
theorem dX8_will_39 : decode cX8_will 39 = .ok (.if_icmp .ne 18, 3) := by decide +kernel
theorem dX8_will_42 : decode cX8_will 42 = .ok (.aload_n 0, 1) := by decide +kernel
theorem dX8_will_43 : decode cX8_will 43 = .ok (.getfield 33, 3) := by decide +kernel
theorem dX8_will_46 : decode cX8_will 46 = .ok (.aload_n 0, 1) := by decide +kernel
theorem dX8_will_47 : decode cX8_will 47 = .ok (.getfield 19, 3) := by decide +kernel
theorem dX8_will_50 : decode cX8_will 50 = .ok (.invokevirtual 206, 3) := by decide +kernel
theorem dX8_will_53 : decode cX8_will 53 = .ok (.pop, 1) := by decide +kernel
theorem dX8_will_54 : decode cX8_will 54 = .ok (.goto 16, 3) := by decide +kernel
theorem dX8_will_57 : decode cX8_will 57 = .ok (.aload_n 0, 1) := by decide +kernel
theorem dX8_will_58 : decode cX8_will 58 = .ok (.getfield 33, 3) := by decide +kernel
theorem dX8_will_61 : decode cX8_will 61 = .ok (.dup, 1) := by decide +kernel
theorem dX8_will_62 : decode cX8_will 62 = .ok (.getfield 160, 3) := by decide +kernel
theorem dX8_will_65 : decode cX8_will 65 = .ok (.iconst 1, 1) := by decide +kernel
theorem dX8_will_66 : decode cX8_will 66 = .ok (.iadd, 1) := by decide +kernel
theorem dX8_will_67 : decode cX8_will 67 = .ok (.putfield 160, 3) := by decide +kernel
theorem dX8_will_70 : decode cX8_will 70 = .ok (.iinc 3 1, 3) := by decide +kernel
theorem dX8_will_73 : decode cX8_will 73 = .ok (.goto (-41), 3) := by decide +kernel
theorem dX8_will_76 : decode cX8_will 76 = .ok (.aload_n 0, 1) := by decide +kernel
theorem dX8_will_77 : decode cX8_will 77 = .ok (.getfield 44, 3) := by decide +kernel
theorem dX8_will_80 : decode cX8_will 80 = .ok (.aload_n 0, 1) := by decide +kernel
theorem dX8_will_81 : decode cX8_will 81 = .ok (.getfield 19, 3) := by decide +kernel
theorem dX8_will_84 : decode cX8_will 84 = .ok (.aload_n 0, 1) := by decide +kernel
theorem dX8_will_85 : decode cX8_will 85 = .ok (.getfield 33, 3) := by decide +kernel
theorem dX8_will_88 : decode cX8_will 88 = .ok (.invokevirtual 237, 3) := by decide +kernel
theorem dX8_will_91 : decode cX8_will 91 = .ok (.aload_n 0, 1) := by decide +kernel
theorem dX8_will_92 : decode cX8_will 92 = .ok (.getfield 44, 3) := by decide +kernel
theorem dX8_will_95 : decode cX8_will 95 = .ok (.aload_n 0, 1) := by decide +kernel
theorem dX8_will_96 : decode cX8_will 96 = .ok (.getfield 33, 3) := by decide +kernel
theorem dX8_will_99 : decode cX8_will 99 = .ok (.getfield 145, 3) := by decide +kernel
theorem dX8_will_102 : decode cX8_will 102 = .ok (.invokevirtual 231, 3) := by decide +kernel
theorem dX8_will_105 : decode cX8_will 105 = .ok (.ireturn, 1) := by decide +kernel
set_option maxRecDepth 20000 in
theorem ggX9_will_X9_isIn : GoodIn wsX9_will wsX9_isIn := goodIn_r _ [5] (by decide +kernel) (by decide +kernel)
set_option maxRecDepth 20000 in
theorem gX9_will_X9_isIn : GoodIn wsX9_will (va_wsS RX9 346 yX9_isIn wsX9_isIn) := goodIn_app (goodIn_of _ (by decide +kernel)) ggX9_will_X9_isIn
set_option maxRecDepth 20000 in
theorem ggX9_will_X9_keepNow : GoodIn wsX9_will wsX9_keepNow := goodIn_r _ [9, 10, 1, 122, 123, 124, 125, 126, 127, 128, 129, 130, 131, 132, 133, 134, 135, 136, 137, 138, 139, 140, 141, 142, 143, 144, 145, 146, 147, 148, 149, 150, 151, 152, 153, 154, 155, 156, 157, 158, 159, 160, 161, 162, 163, 164, 165, 166, 167, 168, 169, 170, 171, 172, 173, 174, 175, 176, 177, 178, 179, 180, 181, 182, 183, 184, 185] (by decide +kernel) (by decide +kernel)
set_option maxRecDepth 20000 in
theorem gX9_will_X9_keepNow : GoodIn wsX9_will (wsV RX9 430 RX9 yX9_keepNow wsX9_keepNow) := goodIn_app (goodIn_of _ (by decide +kernel)) ggX9_will_X9_keepNow
set_option maxRecDepth 20000 in
theorem ggX9_will_X9_goDay : GoodIn wsX9_will wsX9_goDay := goodIn_r _ [14, 1, 15, 16, 17, 18, 19, 4, 20, 21, 22, 23, 24, 122, 123, 124, 125, 126, 127, 128, 129, 130, 131, 132, 133, 134, 135, 136, 137, 138, 139, 140, 141, 142, 143, 144, 145, 146, 147, 148, 149, 150, 151, 152, 153, 154, 155, 156, 157, 158, 159, 160, 161, 162, 163, 164, 165, 166, 167, 168, 169, 170, 171, 172, 173, 174, 175, 176, 177, 178, 179, 180, 181, 182, 183, 184, 185] (by decide +kernel) (by decide +kernel)
set_option maxRecDepth 20000 in
theorem gX9_will_X9_goDay : GoodIn wsX9_will (wsV RX9 424 RX9 yX9_goDay wsX9_goDay) := goodIn_app (goodIn_of _ (by decide +kernel)) ggX9_will_X9_goDay
set_option maxRecDepth 20000 in
theorem ggX9_will_X9_standNow : GoodIn wsX9_will wsX9_standNow := goodIn_r _ [28, 1, 29, 30, 31, 4, 32, 33, 34, 35, 36, 37, 38, 39, 40, 41, 16, 17, 18, 19, 20, 21, 22, 23, 24, 42, 43, 44, 45, 46, 47, 48, 49, 50, 51, 52, 53, 54, 55, 56, 57, 58, 59, 60, 61, 62, 63, 64, 65, 66, 67, 68, 69, 70, 71, 72, 73, 74, 75, 76, 77, 78, 79, 80, 81, 82, 83, 84, 85, 86, 87, 88, 89, 90, 91, 92, 93, 94, 95, 96, 97, 98, 99, 100, 101, 102, 103, 104, 105, 106, 107, 108, 109, 2, 3, 5, 110, 111, 112, 113, 114, 115, 116, 117, 122, 123, 124, 125, 126, 127, 128, 129, 130, 131, 132, 133, 134, 135, 136, 137, 138, 139, 140, 141, 142, 143, 144, 145, 146, 147, 148, 149, 150, 151, 152, 153, 154, 155, 156, 157, 158, 159, 160, 161, 162, 163, 164, 165, 166, 167, 168, 169, 170, 171, 172, 173, 174, 175, 176, 177, 178, 179, 180, 181, 182, 183, 184, 185] (by decide +kernel) (by decide +kernel)
set_option maxRecDepth 20000 in
theorem gX9_will_X9_standNow : GoodIn wsX9_will (wsV RX9 402 RX9 yX9_standNow wsX9_standNow) := goodIn_app (goodIn_of _ (by decide +kernel)) ggX9_will_X9_standNow
set_option maxRecDepth 20000 in
theorem ggX9_will_X9_bringBack : GoodIn wsX9_will wsX9_bringBack := goodIn_r _ [121, 1, 10, 122, 123, 124, 125, 126, 127, 128, 129, 130, 131, 132, 133, 134, 135, 136, 137, 138, 139, 140, 141, 142, 143, 144, 145, 146, 147, 148, 149, 150, 151, 152, 153, 154, 155, 156, 157, 158, 159, 160, 161, 162, 163, 164, 165, 166, 167, 168, 169, 170, 171, 172, 173, 174, 175, 176, 177, 178, 179, 180, 181, 182, 183, 184, 185] (by decide +kernel) (by decide +kernel)
set_option maxRecDepth 20000 in
theorem gX9_will_X9_bringBack : GoodIn wsX9_will (wsV RX9 433 RX9 yX9_bringBack wsX9_bringBack) := goodIn_app (goodIn_of _ (by decide +kernel)) ggX9_will_X9_bringBack
theorem dX9_will_0 : decode cX9_will 0 = .ok (.iload_n 1, 1) := by decide +kernel
theorem dX9_will_1 : decode cX9_will 1 = .ok (.iconst 0, 1) := by decide +kernel
theorem dX9_will_2 : decode cX9_will 2 = .ok (.bipush 60, 2) := by decide +kernel
theorem dX9_will_4 : decode cX9_will 4 = .ok (.invokestatic 346, 3) := by decide +kernel
theorem dX9_will_7 : decode cX9_will 7 = .ok (.ifCond .eq 12, 3) := by decide +kernel
theorem dX9_will_10 : decode cX9_will 10 = .ok (.iload_n 2, 1) := by decide +kernel
theorem dX9_will_11 : decode cX9_will 11 = .ok (.iconst 0, 1) := by decide +kernel
theorem dX9_will_12 : decode cX9_will 12 = .ok (.iconst 1, 1) := by decide +kernel
theorem dX9_will_13 : decode cX9_will 13 = .ok (.invokestatic 346, 3) := by decide +kernel
theorem dX9_will_16 : decode cX9_will 16 = .ok (.ifCond .ne 5, 3) := by decide +kernel
theorem dX9_will_19 : decode cX9_will 19 = .ok (.iconst (-1), 1) := by decide +kernel
theorem dX9_will_20 : decode cX9_will 20 = .ok (.ireturn, 1) := by decide +kernel
theorem dX9_will_21 : decode cX9_will 21 = .ok (.aload_n 0, 1) := by decide +kernel
theorem dX9_will_22 : decode cX9_will 22 = .ok (.invokevirtual 430, 3) := by decide +kernel
theorem dX9_will_25 : decode cX9_will 25 = .ok (.iconst 0, 1) := by decide +kernel
theorem dX9_will_26 : decode cX9_will 26 = .ok (.istore_n 3, 1) := by decide +kernel
theorem dX9_will_27 : decode cX9_will 27 = .ok (.iconst 0, 1) := by decide +kernel
theorem dX9_will_28 : decode cX9_will 28 = .ok (.istore 4, 2) := by decide +kernel
theorem dX9_will_30 : decode cX9_will 30 = .ok (.iload 4, 2) := by decide +kernel
theorem dX9_will_32 : decode cX9_will 32 = .ok (.iload_n 1, 1) := by decide +kernel
theorem dX9_will_33 : decode cX9_will 33 = .ok (.if_icmp .ge 32, 3) := by decide +kernel
theorem dX9_will_36 : decode cX9_will 36 = .ok (.aload_n 0, 1) := by decide +kernel
theorem dX9_will_37 : decode cX9_will 37 = .ok (.getfield 76, 3) := by decide +kernel
theorem dX9_will_40 : decode cX9_will 40 = .ok (.bipush 14, 2) := by decide +kernel
theorem dX9_will_42 : decode cX9_will 42 = .ok (.dup2, 1) := by decide +kernel
theorem dX9_will_43 : decode cX9_will 43 = .ok (.iaload, 1) := by decide +kernel
theorem dX9_will_44 : decode cX9_will 44 = .ok (.iconst 1, 1) := by decide +kernel
theorem dX9_will_45 : decode cX9_will 45 = .ok (.iadd, 1) := by decide +kernel
theorem dX9_will_46 : decode cX9_will 46 = .ok (.iastore, 1) := by decide +kernel
theorem dX9_will_47 : decode cX9_will 47 = .ok (.iload_n 2, 1) := by decide +kernel
theorem dX9_will_48 : decode cX9_will 48 = .ok (.iconst 1, 1) := by decide +kernel
theorem dX9_will_49 : decode cX9_will 49 = .ok (.if_icmp .ne 10, 3) := by decide +kernel
theorem dX9_will_52 : decode cX9_will 52 = .ok (.iload_n 3, 1) := by decide +kernel
theorem dX9_will_53 : decode cX9_will 53 = .ok (.aload_n 0, 1) := by decide +kernel
theorem dX9_will_54 : decode cX9_will 54 = .ok (.invokevirtual 424, 3) := by decide +kernel
theorem dX9_will_57 : decode cX9_will 57 = .ok (.ior, 1) := by decide +kernel
theorem dX9_will_58 : decode cX9_will 58 = .ok (.istore_n 3, 1) := by decide +kernel
theorem dX9_will_59 : decode cX9_will 59 = .ok (.iinc 4 1, 3) := by decide +kernel
theorem dX9_will_62 : decode cX9_will 62 = .ok (.goto (-32), 3) := by decide +kernel
theorem dX9_will_65 : decode cX9_will 65 = .ok (.aload_n 0, 1) := by decide +kernel
theorem dX9_will_66 : decode cX9_will 66 = .ok (.invokevirtual 402, 3) := by decide +kernel
theorem dX9_will_69 : decode cX9_will 69 = .ok (.istore 4, 2) := by decide +kernel
theorem dX9_will_71 : decode cX9_will 71 = .ok (.aload_n 0, 1) := by decide +kernel
theorem dX9_will_72 : decode cX9_will 72 = .ok (.invokevirtual 433, 3) := by decide +kernel
theorem dX9_will_75 : decode cX9_will 75 = .ok (.iload 4, 2) := by decide +kernel
theorem dX9_will_77 : decode cX9_will 77 = .ok (.ireturn, 1) := by decide +kernel
theorem in_X8_will_X8 : ∀ w ∈ wsX80, w ∈ wsX8_will := fun _ h => List.mem_cons_of_mem _ (List.mem_append_left _ (List.mem_append_left _ (List.mem_append_left _ (List.mem_append_left _ (List.mem_append_left _ (List.mem_append_right _ h))))))
theorem in_X8_will_X4 : ∀ w ∈ wsX40, w ∈ wsX8_will := fun _ h => List.mem_cons_of_mem _ (List.mem_append_left _ (List.mem_append_left _ (List.mem_append_left _ (List.mem_append_left _ (List.mem_append_right _ h)))))
theorem in_X9_will_X9 : ∀ w ∈ wsX90, w ∈ wsX9_will := fun _ h => List.mem_cons_of_mem _ (List.mem_append_right _ h)
