theorem dX9_fails_0 : decode cX9_fails 0 = .ok (.aload_n 0, 1) := by decide +kernel
theorem dX9_fails_1 : decode cX9_fails 1 = .ok (.getfield 140, 3) := by decide +kernel
theorem dX9_fails_4 : decode cX9_fails 4 = .ok (.ifCond .le 4, 3) := by decide +kernel
theorem dX9_fails_7 : decode cX9_fails 7 = .ok (.return_, 1) := by decide +kernel
theorem dX9_fails_8 : decode cX9_fails 8 = .ok (.aload_n 0, 1) := by decide +kernel
theorem dX9_fails_9 : decode cX9_fails 9 = .ok (.iload_n 1, 1) := by decide +kernel
theorem dX9_fails_10 : decode cX9_fails 10 = .ok (.putfield 140, 3) := by decide +kernel
theorem dX9_fails_13 : decode cX9_fails 13 = .ok (.aload_n 0, 1) := by decide +kernel
theorem dX9_fails_14 : decode cX9_fails 14 = .ok (.iload_n 2, 1) := by decide +kernel
theorem dX9_fails_15 : decode cX9_fails 15 = .ok (.putfield 16, 3) := by decide +kernel
theorem dX9_fails_18 : decode cX9_fails 18 = .ok (.return_, 1) := by decide +kernel
theorem dX9_isGood_0 : decode cX9_isGood 0 = .ok (.aload_n 0, 1) := by decide +kernel
theorem dX9_isGood_1 : decode cX9_isGood 1 = .ok (.getfield 140, 3) := by decide +kernel
theorem dX9_isGood_4 : decode cX9_isGood 4 = .ok (.ifCond .ne 7, 3) := by decide +kernel
theorem dX9_isGood_7 : decode cX9_isGood 7 = .ok (.iconst 1, 1) := by decide +kernel
theorem dX9_isGood_8 : decode cX9_isGood 8 = .ok (.goto 4, 3) := by decide +kernel
theorem dX9_isGood_11 : decode cX9_isGood 11 = .ok (.iconst 0, 1) := by decide +kernel
theorem dX9_isGood_12 : decode cX9_isGood 12 = .ok (.ireturn, 1) := by decide +kernel
set_option maxRecDepth 20000 in
theorem ggX9_isSignHere_X9_sign : GoodIn wsX9_isSignHere wsX9_sign := goodIn_r _ [7, 8, 9, 10, 11, 12, 13, 14, 15, 16, 17, 18, 19, 20, 21, 22, 23, 24, 25, 26, 27, 28, 29, 30, 31, 32, 33, 34, 35, 36, 37, 38, 39, 40, 41, 42, 43, 44, 45, 46, 47, 48, 49, 50, 51, 52, 53, 54, 55, 56, 57, 58, 59, 60, 61, 62, 63, 64, 65, 66, 67, 68, 69, 70, 71, 72, 73] rfl rfl
set_option maxRecDepth 20000 in
theorem gX9_isSignHere_X9_sign : GoodIn wsX9_isSignHere (wsV RX9 177 RX9 yX9_sign wsX9_sign) := goodIn_app (goodIn_of _ (by decide +kernel)) ggX9_isSignHere_X9_sign
theorem dX9_isSignHere_0 : decode cX9_isSignHere 0 = .ok (.aload_n 0, 1) := by decide +kernel
theorem dX9_isSignHere_1 : decode cX9_isSignHere 1 = .ok (.getfield 181, 3) := by decide +kernel
theorem dX9_isSignHere_4 : decode cX9_isSignHere 4 = .ok (.iconst 5, 1) := by decide +kernel
theorem dX9_isSignHere_5 : decode cX9_isSignHere 5 = .ok (.if_icmp .ne 19, 3) := by decide +kernel
theorem dX9_isSignHere_8 : decode cX9_isSignHere 8 = .ok (.aload_n 0, 1) := by decide +kernel
theorem dX9_isSignHere_9 : decode cX9_isSignHere 9 = .ok (.aload_n 0, 1) := by decide +kernel
theorem dX9_isSignHere_10 : decode cX9_isSignHere 10 = .ok (.getfield 174, 3) := by decide +kernel
theorem dX9_isSignHere_13 : decode cX9_isSignHere 13 = .ok (.invokevirtual 177, 3) := by decide +kernel
theorem dX9_isSignHere_16 : decode cX9_isSignHere 16 = .ok (.iload_n 1, 1) := by decide +kernel
theorem dX9_isSignHere_17 : decode cX9_isSignHere 17 = .ok (.if_icmp .ne 7, 3) := by decide +kernel
theorem dX9_isSignHere_20 : decode cX9_isSignHere 20 = .ok (.iconst 1, 1) := by decide +kernel
theorem dX9_isSignHere_21 : decode cX9_isSignHere 21 = .ok (.goto 4, 3) := by decide +kernel
theorem dX9_isSignHere_24 : decode cX9_isSignHere 24 = .ok (.iconst 0, 1) := by decide +kernel
theorem dX9_isSignHere_25 : decode cX9_isSignHere 25 = .ok (.ireturn, 1) := by decide +kernel
theorem dX9_isWord_0 : decode cX9_isWord 0 = .ok (.aload_n 0, 1) := by decide +kernel
theorem dX9_isWord_1 : decode cX9_isWord 1 = .ok (.getfield 181, 3) := by decide +kernel
theorem dX9_isWord_4 : decode cX9_isWord 4 = .ok (.iconst 3, 1) := by decide +kernel
theorem dX9_isWord_5 : decode cX9_isWord 5 = .ok (.if_icmp .ne 16, 3) := by decide +kernel
theorem dX9_isWord_8 : decode cX9_isWord 8 = .ok (.aload_n 0, 1) := by decide +kernel
theorem dX9_isWord_9 : decode cX9_isWord 9 = .ok (.getfield 188, 3) := by decide +kernel
theorem dX9_isWord_12 : decode cX9_isWord 12 = .ok (.lload_n 1, 1) := by decide +kernel
theorem dX9_isWord_13 : decode cX9_isWord 13 = .ok (.lcmp, 1) := by decide +kernel
theorem dX9_isWord_14 : decode cX9_isWord 14 = .ok (.ifCond .ne 7, 3) := by decide +kernel
theorem dX9_isWord_17 : decode cX9_isWord 17 = .ok (.iconst 1, 1) := by decide +kernel
theorem dX9_isWord_18 : decode cX9_isWord 18 = .ok (.goto 4, 3) := by decide +kernel
theorem dX9_isWord_21 : decode cX9_isWord 21 = .ok (.iconst 0, 1) := by decide +kernel
theorem dX9_isWord_22 : decode cX9_isWord 22 = .ok (.ireturn, 1) := by decide +kernel
set_option maxRecDepth 20000 in
theorem ggX9_misplaced_X9_fails : GoodIn wsX9_misplaced wsX9_fails := goodIn_r _ [7, 8, 9, 10, 11, 12, 13, 14, 15, 16, 17, 18, 19, 20, 21, 22, 23, 24, 25, 26, 27, 28, 29, 30, 31, 32, 33, 34, 35, 36, 37, 38, 39, 40, 41, 42, 43, 44, 45, 46, 47, 48, 49, 50, 51, 52, 53, 54, 55, 56, 57, 58, 59, 60, 61, 62, 63, 64, 65, 66, 67, 68, 69, 70, 71, 72, 73] rfl rfl
set_option maxRecDepth 20000 in
theorem gX9_misplaced_X9_fails : GoodIn wsX9_misplaced (wsV RX9 205 RX9 yX9_fails wsX9_fails) := goodIn_app (goodIn_of _ (by decide +kernel)) ggX9_misplaced_X9_fails
theorem dX9_misplaced_0 : decode cX9_misplaced 0 = .ok (.aload_n 0, 1) := by decide +kernel
theorem dX9_misplaced_1 : decode cX9_misplaced 1 = .ok (.aload_n 0, 1) := by decide +kernel
theorem dX9_misplaced_2 : decode cX9_misplaced 2 = .ok (.getfield 181, 3) := by decide +kernel
theorem dX9_misplaced_5 : decode cX9_misplaced 5 = .ok (.iconst 1, 1) := by decide +kernel
theorem dX9_misplaced_6 : decode cX9_misplaced 6 = .ok (.if_icmp .ne 7, 3) := by decide +kernel
theorem dX9_misplaced_9 : decode cX9_misplaced 9 = .ok (.iconst 1, 1) := by decide +kernel
theorem dX9_misplaced_10 : decode cX9_misplaced 10 = .ok (.goto 4, 3) := by decide +kernel
theorem dX9_misplaced_13 : decode cX9_misplaced 13 = .ok (.iconst 2, 1) := by decide +kernel
theorem dX9_misplaced_14 : decode cX9_misplaced 14 = .ok (.aload_n 0, 1) := by decide +kernel
theorem dX9_misplaced_15 : decode cX9_misplaced 15 = .ok (.getfield 174, 3) := by decide +kernel
theorem dX9_misplaced_18 : decode cX9_misplaced 18 = .ok (.invokevirtual 205, 3) := by decide +kernel
theorem dX9_misplaced_21 : decode cX9_misplaced 21 = .ok (.return_, 1) := by decide +kernel
set_option maxRecDepth 20000 in
theorem ggX9_must_X9_isGood : GoodIn wsX9_must wsX9_isGood := goodIn_r _ [5, 6, 57, 58, 59, 60, 61, 62, 63, 64, 65, 66, 67, 68, 69, 70, 71, 72, 73, 74, 75, 76, 77, 78, 79, 80, 81, 82, 83, 84, 85, 86, 87, 88, 89, 90, 91, 92, 93, 94, 95, 96, 97, 98, 99, 100, 101, 102, 103, 104, 105, 106, 107, 108, 109, 110, 111, 112, 113, 114, 115, 116, 117, 118, 119, 120] rfl rfl
set_option maxRecDepth 20000 in
theorem gX9_must_X9_isGood : GoodIn wsX9_must (wsV RX9 209 RX9 yX9_isGood wsX9_isGood) := goodIn_app (goodIn_of _ (by decide +kernel)) ggX9_must_X9_isGood
set_option maxRecDepth 20000 in
theorem ggX9_must_X9_goOn : GoodIn wsX9_must wsX9_goOn := goodIn_r _ [10, 11, 12, 13, 14, 15, 16, 17, 18, 19, 4, 20, 21, 22, 23, 24, 25, 26, 27, 28, 29, 30, 31, 32, 33, 34, 35, 36, 37, 38, 39, 40, 41, 42, 43, 44, 45, 46, 47, 57, 58, 59, 60, 61, 62, 63, 64, 65, 66, 67, 68, 69, 70, 71, 72, 73, 74, 75, 76, 77, 78, 79, 80, 81, 82, 83, 84, 85, 86, 87, 88, 89, 90, 91, 92, 93, 94, 95, 96, 97, 98, 99, 100, 101, 102, 103, 104, 105, 106, 107, 108, 109, 110, 111, 112, 113, 114, 115, 116, 117, 118, 119, 120] rfl rfl
set_option maxRecDepth 20000 in
theorem gX9_must_X9_goOn : GoodIn wsX9_must (wsV RX9 213 RX9 yX9_goOn wsX9_goOn) := goodIn_app (goodIn_of _ (by decide +kernel)) ggX9_must_X9_goOn
set_option maxRecDepth 20000 in
theorem ggX9_must_X9_misplaced : GoodIn wsX9_must wsX9_misplaced := goodIn_r _ [51, 14, 12, 52, 53, 54, 4, 55, 6, 56, 57, 58, 59, 60, 61, 62, 63, 64, 65, 66, 67, 68, 69, 70, 71, 72, 73, 74, 75, 76, 77, 78, 79, 80, 81, 82, 83, 84, 85, 86, 87, 88, 89, 90, 91, 92, 93, 94, 95, 96, 97, 98, 99, 100, 101, 102, 103, 104, 105, 106, 107, 108, 109, 110, 111, 112, 113, 114, 115, 116, 117, 118, 119, 120] rfl rfl
set_option maxRecDepth 20000 in
theorem gX9_must_X9_misplaced : GoodIn wsX9_must (wsV RX9 216 RX9 yX9_misplaced wsX9_misplaced) := goodIn_app (goodIn_of _ (by decide +kernel)) ggX9_must_X9_misplaced
theorem dX9_must_0 : decode cX9_must 0 = .ok (.aload_n 0, 1) := by decide +kernel
theorem dX9_must_1 : decode cX9_must 1 = .ok (.invokevirtual 209, 3) := by decide +kernel
theorem dX9_must_4 : decode cX9_must 4 = .ok (.ifCond .ne 4, 3) := by decide +kernel
theorem dX9_must_7 : decode cX9_must 7 = .ok (.return_, 1) := by decide +kernel
theorem dX9_must_8 : decode cX9_must 8 = .ok (.iload_n 1, 1) := by decide +kernel
theorem dX9_must_9 : decode cX9_must 9 = .ok (.ifCond .eq 10, 3) := by decide +kernel
theorem dX9_must_12 : decode cX9_must 12 = .ok (.aload_n 0, 1) := by decide +kernel
theorem dX9_must_13 : decode cX9_must 13 = .ok (.invokevirtual 213, 3) := by decide +kernel
theorem dX9_must_16 : decode cX9_must 16 = .ok (.goto 7, 3) := by decide +kernel
theorem dX9_must_19 : decode cX9_must 19 = .ok (.aload_n 0, 1) := by decide +kernel
theorem dX9_must_20 : decode cX9_must 20 = .ok (.invokevirtual 216, 3) := by decide +kernel
theorem dX9_must_23 : decode cX9_must 23 = .ok (.return_, 1) := by decide +kernel
set_option maxRecDepth 20000 in
theorem ggX9_numeral_X9_isGood : GoodIn wsX9_numeral wsX9_isGood := goodIn_r _ [8, 9, 57, 58, 59, 60, 61, 62, 63, 64, 65, 66, 67, 68, 69, 70, 71, 72, 73, 74, 75, 76, 77, 78, 79, 80, 81, 82, 83, 84, 85, 86, 87, 88, 89, 90, 91, 92, 93, 94, 95, 96, 97, 98, 99, 100, 101, 102, 103, 104, 105, 106, 107, 108, 109, 110, 111, 112, 113, 114, 115, 116, 117, 118, 119, 120] rfl rfl
set_option maxRecDepth 20000 in
theorem gX9_numeral_X9_isGood : GoodIn wsX9_numeral (wsV RX9 209 RX9 yX9_isGood wsX9_isGood) := goodIn_app (goodIn_of _ (by decide +kernel)) ggX9_numeral_X9_isGood
set_option maxRecDepth 20000 in
theorem ggX9_numeral_X9_misplaced : GoodIn wsX9_numeral wsX9_misplaced := goodIn_r _ [13, 1, 3, 14, 15, 16, 7, 17, 9, 18, 57, 58, 59, 60, 61, 62, 63, 64, 65, 66, 67, 68, 69, 70, 71, 72, 73, 74, 75, 76, 77, 78, 79, 80, 81, 82, 83, 84, 85, 86, 87, 88, 89, 90, 91, 92, 93, 94, 95, 96, 97, 98, 99, 100, 101, 102, 103, 104, 105, 106, 107, 108, 109, 110, 111, 112, 113, 114, 115, 116, 117, 118, 119, 120] rfl rfl
set_option maxRecDepth 20000 in
theorem gX9_numeral_X9_misplaced : GoodIn wsX9_numeral (wsV RX9 216 RX9 yX9_misplaced wsX9_misplaced) := goodIn_app (goodIn_of _ (by decide +kernel)) ggX9_numeral_X9_misplaced
set_option maxRecDepth 20000 in
theorem ggX9_numeral_X9_fails : GoodIn wsX9_numeral wsX9_fails := goodIn_r _ [17, 9, 18, 57, 58, 59, 60, 61, 62, 63, 64, 65, 66, 67, 68, 69, 70, 71, 72, 73, 74, 75, 76, 77, 78, 79, 80, 81, 82, 83, 84, 85, 86, 87, 88, 89, 90, 91, 92, 93, 94, 95, 96, 97, 98, 99, 100, 101, 102, 103, 104, 105, 106, 107, 108, 109, 110, 111, 112, 113, 114, 115, 116, 117, 118, 119, 120] rfl rfl
set_option maxRecDepth 20000 in
theorem gX9_numeral_X9_fails : GoodIn wsX9_numeral (wsV RX9 205 RX9 yX9_fails wsX9_fails) := goodIn_app (goodIn_of _ (by decide +kernel)) ggX9_numeral_X9_fails
set_option maxRecDepth 20000 in
theorem ggX9_numeral_X9_goOn : GoodIn wsX9_numeral wsX9_goOn := goodIn_r _ [22, 23, 3, 24, 1, 25, 2, 26, 27, 28, 7, 29, 30, 31, 32, 33, 34, 35, 36, 37, 38, 39, 40, 41, 42, 43, 44, 45, 46, 47, 48, 49, 50, 51, 52, 53, 54, 55, 56, 57, 58, 59, 60, 61, 62, 63, 64, 65, 66, 67, 68, 69, 70, 71, 72, 73, 74, 75, 76, 77, 78, 79, 80, 81, 82, 83, 84, 85, 86, 87, 88, 89, 90, 91, 92, 93, 94, 95, 96, 97, 98, 99, 100, 101, 102, 103, 104, 105, 106, 107, 108, 109, 110, 111, 112, 113, 114, 115, 116, 117, 118, 119, 120] rfl rfl
set_option maxRecDepth 20000 in
theorem gX9_numeral_X9_goOn : GoodIn wsX9_numeral (wsV RX9 213 RX9 yX9_goOn wsX9_goOn) := goodIn_app (goodIn_of _ (by decide +kernel)) ggX9_numeral_X9_goOn
theorem dX9_numeral_0 : decode cX9_numeral 0 = .ok (.aload_n 0, 1) := by decide +kernel
theorem dX9_numeral_1 : decode cX9_numeral 1 = .ok (.invokevirtual 209, 3) := by decide +kernel
theorem dX9_numeral_4 : decode cX9_numeral 4 = .ok (.ifCond .ne 5, 3) := by decide +kernel
theorem dX9_numeral_7 : decode cX9_numeral 7 = .ok (.iload_n 1, 1) := by decide +kernel
theorem dX9_numeral_8 : decode cX9_numeral 8 = .ok (.ireturn, 1) := by decide +kernel
theorem dX9_numeral_9 : decode cX9_numeral 9 = .ok (.aload_n 0, 1) := by decide +kernel
theorem dX9_numeral_10 : decode cX9_numeral 10 = .ok (.getfield 181, 3) := by decide +kernel
theorem dX9_numeral_13 : decode cX9_numeral 13 = .ok (.iconst 4, 1) := by decide +kernel
theorem dX9_numeral_14 : decode cX9_numeral 14 = .ok (.if_icmp .eq 7, 3) := by decide +kernel
theorem dX9_numeral_17 : decode cX9_numeral 17 = .ok (.aload_n 0, 1) := by decide +kernel
theorem dX9_numeral_18 : decode cX9_numeral 18 = .ok (.invokevirtual 216, 3) := by decide +kernel
theorem dX9_numeral_21 : decode cX9_numeral 21 = .ok (.aload_n 0, 1) := by decide +kernel
theorem dX9_numeral_22 : decode cX9_numeral 22 = .ok (.invokevirtual 209, 3) := by decide +kernel
theorem dX9_numeral_25 : decode cX9_numeral 25 = .ok (.ifCond .eq 28, 3) := by decide +kernel
theorem dX9_numeral_28 : decode cX9_numeral 28 = .ok (.aload_n 0, 1) := by decide +kernel
theorem dX9_numeral_29 : decode cX9_numeral 29 = .ok (.getfield 199, 3) := by decide +kernel
theorem dX9_numeral_32 : decode cX9_numeral 32 = .ok (.iload_n 1, 1) := by decide +kernel
theorem dX9_numeral_33 : decode cX9_numeral 33 = .ok (.if_icmp .lt 11, 3) := by decide +kernel
theorem dX9_numeral_36 : decode cX9_numeral 36 = .ok (.aload_n 0, 1) := by decide +kernel
theorem dX9_numeral_37 : decode cX9_numeral 37 = .ok (.getfield 199, 3) := by decide +kernel
theorem dX9_numeral_40 : decode cX9_numeral 40 = .ok (.iload_n 2, 1) := by decide +kernel
theorem dX9_numeral_41 : decode cX9_numeral 41 = .ok (.if_icmp .le 12, 3) := by decide +kernel
theorem dX9_numeral_44 : decode cX9_numeral 44 = .ok (.aload_n 0, 1) := by decide +kernel
theorem dX9_numeral_45 : decode cX9_numeral 45 = .ok (.iconst 4, 1) := by decide +kernel
theorem dX9_numeral_46 : decode cX9_numeral 46 = .ok (.aload_n 0, 1) := by decide +kernel
theorem dX9_numeral_47 : decode cX9_numeral 47 = .ok (.getfield 174, 3) := by decide +kernel
theorem dX9_numeral_50 : decode cX9_numeral 50 = .ok (.invokevirtual 205, 3) := by decide +kernel
theorem dX9_numeral_53 : decode cX9_numeral 53 = .ok (.aload_n 0, 1) := by decide +kernel
theorem dX9_numeral_54 : decode cX9_numeral 54 = .ok (.getfield 199, 3) := by decide +kernel
theorem dX9_numeral_57 : decode cX9_numeral 57 = .ok (.istore_n 3, 1) := by decide +kernel
theorem dX9_numeral_58 : decode cX9_numeral 58 = .ok (.aload_n 0, 1) := by decide +kernel
theorem dX9_numeral_59 : decode cX9_numeral 59 = .ok (.invokevirtual 209, 3) := by decide +kernel
theorem dX9_numeral_62 : decode cX9_numeral 62 = .ok (.ifCond .eq 7, 3) := by decide +kernel
theorem dX9_numeral_65 : decode cX9_numeral 65 = .ok (.aload_n 0, 1) := by decide +kernel
theorem dX9_numeral_66 : decode cX9_numeral 66 = .ok (.invokevirtual 213, 3) := by decide +kernel
theorem dX9_numeral_69 : decode cX9_numeral 69 = .ok (.aload_n 0, 1) := by decide +kernel
theorem dX9_numeral_70 : decode cX9_numeral 70 = .ok (.invokevirtual 209, 3) := by decide +kernel
theorem dX9_numeral_73 : decode cX9_numeral 73 = .ok (.ifCond .eq 7, 3) := by decide +kernel
theorem dX9_numeral_76 : decode cX9_numeral 76 = .ok (.iload_n 3, 1) := by decide +kernel
theorem dX9_numeral_77 : decode cX9_numeral 77 = .ok (.goto 4, 3) := by decide +kernel
theorem dX9_numeral_80 : decode cX9_numeral 80 = .ok (.iload_n 1, 1) := by decide +kernel
theorem dX9_numeral_81 : decode cX9_numeral 81 = .ok (.ireturn, 1) := by decide +kernel
set_option maxRecDepth 20000 in
theorem ggX9_after_X9_isWord : GoodIn wsX9_after wsX9_isWord := goodIn_r _ [5, 6, 7, 69, 70, 71, 72, 73, 74, 75, 76, 77, 78, 79, 80, 81, 82, 83, 84, 85, 86, 87, 88, 89, 90, 91, 92, 93, 94, 95, 96, 97, 98, 99, 100, 101, 102, 103, 104, 105, 106, 107, 108, 109, 110, 111, 112, 113, 114, 115, 116, 117, 118, 119, 120, 121, 122, 123, 124, 125, 126, 127, 128, 129, 130, 131, 132] rfl rfl
set_option maxRecDepth 20000 in
theorem gX9_after_X9_isWord : GoodIn wsX9_after (wsV RX9 219 RX9 yX9_isWord wsX9_isWord) := goodIn_app (goodIn_of _ (by decide +kernel)) ggX9_after_X9_isWord
set_option maxRecDepth 20000 in
theorem ggX9_after_X9_must : GoodIn wsX9_after wsX9_must := goodIn_r _ [11, 12, 13, 14, 4, 15, 16, 17, 18, 19, 20, 21, 22, 23, 6, 7, 24, 25, 26, 27, 28, 29, 30, 31, 32, 33, 34, 35, 36, 37, 38, 39, 40, 41, 42, 43, 44, 45, 46, 47, 48, 49, 50, 51, 52, 53, 54, 55, 56, 57, 58, 59, 60, 61, 62, 63, 64, 69, 70, 71, 72, 73, 74, 75, 76, 77, 78, 79, 80, 81, 82, 83, 84, 85, 86, 87, 88, 89, 90, 91, 92, 93, 94, 95, 96, 97, 98, 99, 100, 101, 102, 103, 104, 105, 106, 107, 108, 109, 110, 111, 112, 113, 114, 115, 116, 117, 118, 119, 120, 121, 122, 123, 124, 125, 126, 127, 128, 129, 130, 131, 132] rfl rfl
set_option maxRecDepth 20000 in
theorem gX9_after_X9_must : GoodIn wsX9_after (wsV RX9 222 RX9 yX9_must wsX9_must) := goodIn_app (goodIn_of _ (by decide +kernel)) ggX9_after_X9_must
set_option maxRecDepth 20000 in
theorem ggX9_after_X9_numeral : GoodIn wsX9_after wsX9_numeral := goodIn_r _ [68, 6, 24, 22, 12, 13, 14, 4, 15, 16, 56, 57, 58, 59, 60, 61, 62, 63, 64, 17, 18, 19, 20, 21, 23, 7, 25, 26, 27, 28, 29, 30, 31, 32, 33, 34, 35, 36, 37, 38, 39, 40, 41, 42, 43, 44, 45, 46, 47, 48, 49, 50, 51, 52, 53, 54, 55, 69, 70, 71, 72, 73, 74, 75, 76, 77, 78, 79, 80, 81, 82, 83, 84, 85, 86, 87, 88, 89, 90, 91, 92, 93, 94, 95, 96, 97, 98, 99, 100, 101, 102, 103, 104, 105, 106, 107, 108, 109, 110, 111, 112, 113, 114, 115, 116, 117, 118, 119, 120, 121, 122, 123, 124, 125, 126, 127, 128, 129, 130, 131, 132] rfl rfl
set_option maxRecDepth 20000 in
theorem gX9_after_X9_numeral : GoodIn wsX9_after (wsV RX9 226 RX9 yX9_numeral wsX9_numeral) := goodIn_app (goodIn_of _ (by decide +kernel)) ggX9_after_X9_numeral
theorem dX9_after_0 : decode cX9_after 0 = .ok (.aload_n 0, 1) := by decide +kernel
theorem dX9_after_1 : decode cX9_after 1 = .ok (.aload_n 0, 1) := by decide +kernel
theorem dX9_after_2 : decode cX9_after 2 = .ok (.lload_n 1, 1) := by decide +kernel
theorem dX9_after_3 : decode cX9_after 3 = .ok (.invokevirtual 219, 3) := by decide +kernel
theorem dX9_after_6 : decode cX9_after 6 = .ok (.invokevirtual 222, 3) := by decide +kernel
theorem dX9_after_9 : decode cX9_after 9 = .ok (.aload_n 0, 1) := by decide +kernel
theorem dX9_after_10 : decode cX9_after 10 = .ok (.iload_n 3, 1) := by decide +kernel
theorem dX9_after_11 : decode cX9_after 11 = .ok (.iload 4, 2) := by decide +kernel
theorem dX9_after_13 : decode cX9_after 13 = .ok (.invokevirtual 226, 3) := by decide +kernel
theorem dX9_after_16 : decode cX9_after 16 = .ok (.ireturn, 1) := by decide +kernel
set_option maxRecDepth 20000 in
theorem ggX9_isFull_X9_isWord : GoodIn wsX9_isFull wsX9_isWord := goodIn_r _ [15, 16, 17, 21, 22, 23, 24, 25, 26, 27, 28, 29, 30, 31, 32, 33, 34, 35, 36, 37, 38, 39, 40, 41, 42, 43, 44, 45, 46, 47, 48, 49, 50, 51, 52, 53, 54, 55, 56, 57, 58, 59, 60, 61, 62, 63, 64, 65, 66, 67, 68, 69, 70, 71, 72, 73, 74, 75, 76, 77, 78, 79, 80, 81, 82, 83, 84] rfl rfl
set_option maxRecDepth 20000 in
theorem gX9_isFull_X9_isWord : GoodIn wsX9_isFull (wsV RX9 219 RX9 yX9_isWord wsX9_isWord) := goodIn_app (goodIn_of _ (by decide +kernel)) ggX9_isFull_X9_isWord
set_option maxRecDepth 20000 in
theorem ggX9_isFull_X9_bit : GoodIn wsX9_isFull wsX9_bit := goodIn_r _ [20] rfl rfl
set_option maxRecDepth 20000 in
theorem gX9_isFull_X9_bit : GoodIn wsX9_isFull (va_wsS RX9 245 yX9_bit wsX9_bit) := goodIn_app (goodIn_of _ (by decide +kernel)) ggX9_isFull_X9_bit
theorem dX9_isFull_0 : decode cX9_isFull 0 = .ok (.aload_n 0, 1) := by decide +kernel
theorem dX9_isFull_1 : decode cX9_isFull 1 = .ok (.ldc2_w 143, 3) := by decide +kernel
theorem dX9_isFull_4 : decode cX9_isFull 4 = .ok (.invokevirtual 219, 3) := by decide +kernel
theorem dX9_isFull_7 : decode cX9_isFull 7 = .ok (.ifCond .ne 13, 3) := by decide +kernel
theorem dX9_isFull_10 : decode cX9_isFull 10 = .ok (.aload_n 0, 1) := by decide +kernel
theorem dX9_isFull_11 : decode cX9_isFull 11 = .ok (.ldc2_w 145, 3) := by decide +kernel
theorem dX9_isFull_14 : decode cX9_isFull 14 = .ok (.invokevirtual 219, 3) := by decide +kernel
theorem dX9_isFull_17 : decode cX9_isFull 17 = .ok (.ifCond .eq 23, 3) := by decide +kernel
theorem dX9_isFull_20 : decode cX9_isFull 20 = .ok (.aload_n 0, 1) := by decide +kernel
theorem dX9_isFull_21 : decode cX9_isFull 21 = .ok (.getfield 20, 3) := by decide +kernel
theorem dX9_isFull_24 : decode cX9_isFull 24 = .ok (.aload_n 0, 1) := by decide +kernel
theorem dX9_isFull_25 : decode cX9_isFull 25 = .ok (.getfield 230, 3) := by decide +kernel
theorem dX9_isFull_28 : decode cX9_isFull 28 = .ok (.iaload, 1) := by decide +kernel
theorem dX9_isFull_29 : decode cX9_isFull 29 = .ok (.bipush 10, 2) := by decide +kernel
theorem dX9_isFull_31 : decode cX9_isFull 31 = .ok (.if_icmp .ne 7, 3) := by decide +kernel
theorem dX9_isFull_34 : decode cX9_isFull 34 = .ok (.iconst 1, 1) := by decide +kernel
theorem dX9_isFull_35 : decode cX9_isFull 35 = .ok (.goto 4, 3) := by decide +kernel
theorem dX9_isFull_38 : decode cX9_isFull 38 = .ok (.iconst 0, 1) := by decide +kernel
theorem dX9_isFull_39 : decode cX9_isFull 39 = .ok (.ireturn, 1) := by decide +kernel
theorem dX9_isFull_40 : decode cX9_isFull 40 = .ok (.aload_n 0, 1) := by decide +kernel
theorem dX9_isFull_41 : decode cX9_isFull 41 = .ok (.ldc2_w 149, 3) := by decide +kernel
theorem dX9_isFull_44 : decode cX9_isFull 44 = .ok (.invokevirtual 219, 3) := by decide +kernel
theorem dX9_isFull_47 : decode cX9_isFull 47 = .ok (.ifCond .eq 23, 3) := by decide +kernel
theorem dX9_isFull_50 : decode cX9_isFull 50 = .ok (.aload_n 0, 1) := by decide +kernel
theorem dX9_isFull_51 : decode cX9_isFull 51 = .ok (.getfield 24, 3) := by decide +kernel
theorem dX9_isFull_54 : decode cX9_isFull 54 = .ok (.aload_n 0, 1) := by decide +kernel
theorem dX9_isFull_55 : decode cX9_isFull 55 = .ok (.getfield 230, 3) := by decide +kernel
theorem dX9_isFull_58 : decode cX9_isFull 58 = .ok (.iaload, 1) := by decide +kernel
theorem dX9_isFull_59 : decode cX9_isFull 59 = .ok (.bipush 12, 2) := by decide +kernel
theorem dX9_isFull_61 : decode cX9_isFull 61 = .ok (.if_icmp .ne 7, 3) := by decide +kernel
theorem dX9_isFull_64 : decode cX9_isFull 64 = .ok (.iconst 1, 1) := by decide +kernel
theorem dX9_isFull_65 : decode cX9_isFull 65 = .ok (.goto 4, 3) := by decide +kernel
theorem dX9_isFull_68 : decode cX9_isFull 68 = .ok (.iconst 0, 1) := by decide +kernel
theorem dX9_isFull_69 : decode cX9_isFull 69 = .ok (.ireturn, 1) := by decide +kernel
theorem dX9_isFull_70 : decode cX9_isFull 70 = .ok (.aload_n 0, 1) := by decide +kernel
theorem dX9_isFull_71 : decode cX9_isFull 71 = .ok (.ldc2_w 153, 3) := by decide +kernel
theorem dX9_isFull_74 : decode cX9_isFull 74 = .ok (.invokevirtual 219, 3) := by decide +kernel
theorem dX9_isFull_77 : decode cX9_isFull 77 = .ok (.ifCond .eq 17, 3) := by decide +kernel
theorem dX9_isFull_80 : decode cX9_isFull 80 = .ok (.aload_n 0, 1) := by decide +kernel
theorem dX9_isFull_81 : decode cX9_isFull 81 = .ok (.getfield 36, 3) := by decide +kernel
theorem dX9_isFull_84 : decode cX9_isFull 84 = .ok (.aload_n 0, 1) := by decide +kernel
theorem dX9_isFull_85 : decode cX9_isFull 85 = .ok (.getfield 230, 3) := by decide +kernel
theorem dX9_isFull_88 : decode cX9_isFull 88 = .ok (.iaload, 1) := by decide +kernel
theorem dX9_isFull_89 : decode cX9_isFull 89 = .ok (.iconst 0, 1) := by decide +kernel
theorem dX9_isFull_90 : decode cX9_isFull 90 = .ok (.invokestatic 245, 3) := by decide +kernel
theorem dX9_isFull_93 : decode cX9_isFull 93 = .ok (.ireturn, 1) := by decide +kernel
theorem dX9_isFull_94 : decode cX9_isFull 94 = .ok (.aload_n 0, 1) := by decide +kernel
theorem dX9_isFull_95 : decode cX9_isFull 95 = .ok (.ldc2_w 155, 3) := by decide +kernel
theorem dX9_isFull_98 : decode cX9_isFull 98 = .ok (.invokevirtual 219, 3) := by decide +kernel
theorem dX9_isFull_101 : decode cX9_isFull 101 = .ok (.ifCond .eq 17, 3) := by decide +kernel
theorem dX9_isFull_104 : decode cX9_isFull 104 = .ok (.aload_n 0, 1) := by decide +kernel
theorem dX9_isFull_105 : decode cX9_isFull 105 = .ok (.getfield 36, 3) := by decide +kernel
theorem dX9_isFull_108 : decode cX9_isFull 108 = .ok (.aload_n 0, 1) := by decide +kernel
theorem dX9_isFull_109 : decode cX9_isFull 109 = .ok (.getfield 230, 3) := by decide +kernel
theorem dX9_isFull_112 : decode cX9_isFull 112 = .ok (.iaload, 1) := by decide +kernel
theorem dX9_isFull_113 : decode cX9_isFull 113 = .ok (.iconst 1, 1) := by decide +kernel
theorem dX9_isFull_114 : decode cX9_isFull 114 = .ok (.invokestatic 245, 3) := by decide +kernel
theorem dX9_isFull_117 : decode cX9_isFull 117 = .ok (.ireturn, 1) := by decide +kernel
theorem dX9_isFull_118 : decode cX9_isFull 118 = .ok (.aload_n 0, 1) := by decide +kernel
theorem dX9_isFull_119 : decode cX9_isFull 119 = .ok (.ldc2_w 157, 3) := by decide +kernel
theorem dX9_isFull_122 : decode cX9_isFull 122 = .ok (.invokevirtual 219, 3) := by decide +kernel
theorem dX9_isFull_125 : decode cX9_isFull 125 = .ok (.ifCond .eq 19, 3) := by decide +kernel
theorem dX9_isFull_128 : decode cX9_isFull 128 = .ok (.aload_n 0, 1) := by decide +kernel
theorem dX9_isFull_129 : decode cX9_isFull 129 = .ok (.getfield 36, 3) := by decide +kernel
theorem dX9_isFull_132 : decode cX9_isFull 132 = .ok (.aload_n 0, 1) := by decide +kernel
theorem dX9_isFull_133 : decode cX9_isFull 133 = .ok (.getfield 230, 3) := by decide +kernel
theorem dX9_isFull_136 : decode cX9_isFull 136 = .ok (.iaload, 1) := by decide +kernel
theorem dX9_isFull_137 : decode cX9_isFull 137 = .ok (.iconst 2, 1) := by decide +kernel
theorem dX9_isFull_138 : decode cX9_isFull 138 = .ok (.invokestatic 245, 3) := by decide +kernel
theorem dX9_isFull_141 : decode cX9_isFull 141 = .ok (.ifCond .eq 7, 3) := by decide +kernel
theorem dX9_isFull_144 : decode cX9_isFull 144 = .ok (.iconst 1, 1) := by decide +kernel
theorem dX9_isFull_145 : decode cX9_isFull 145 = .ok (.goto 4, 3) := by decide +kernel
theorem dX9_isFull_148 : decode cX9_isFull 148 = .ok (.iconst 0, 1) := by decide +kernel
theorem dX9_isFull_149 : decode cX9_isFull 149 = .ok (.ireturn, 1) := by decide +kernel
set_option maxRecDepth 20000 in
theorem ggX9_once_X9_numeral : GoodIn wsX9_once wsX9_numeral := goodIn_r _ [7, 8, 9, 10, 11, 12, 13, 6, 14, 15, 16, 17, 18, 19, 20, 21, 22, 23, 24, 25, 26, 27, 28, 29, 30, 31, 32, 33, 34, 35, 36, 37, 38, 39, 40, 41, 42, 43, 44, 45, 46, 47, 48, 49, 50, 51, 52, 53, 54, 55, 56, 57, 58, 59, 60, 61, 62, 63, 64, 65, 66, 67, 68, 69, 70, 71, 72, 73, 74, 75, 76, 77, 78, 79, 80, 81, 82, 83, 84, 85, 86, 87, 88, 89, 90, 91, 92, 93, 94, 95, 96, 97, 98, 99, 100, 101, 102, 103, 104, 105, 106, 107, 108, 109, 110, 111, 112, 113, 114, 115, 116, 117, 118, 119, 120, 121, 122, 123, 124, 125, 126] rfl rfl
set_option maxRecDepth 20000 in
theorem gX9_once_X9_numeral : GoodIn wsX9_once (wsV RX9 226 RX9 yX9_numeral wsX9_numeral) := goodIn_app (goodIn_of _ (by decide +kernel)) ggX9_once_X9_numeral
theorem dX9_once_0 : decode cX9_once 0 = .ok (.aload_n 0, 1) := by decide +kernel
theorem dX9_once_1 : decode cX9_once 1 = .ok (.getfield 36, 3) := by decide +kernel
theorem dX9_once_4 : decode cX9_once 4 = .ok (.aload_n 0, 1) := by decide +kernel
theorem dX9_once_5 : decode cX9_once 5 = .ok (.getfield 230, 3) := by decide +kernel
theorem dX9_once_8 : decode cX9_once 8 = .ok (.dup2, 1) := by decide +kernel
theorem dX9_once_9 : decode cX9_once 9 = .ok (.iaload, 1) := by decide +kernel
theorem dX9_once_10 : decode cX9_once 10 = .ok (.iconst 1, 1) := by decide +kernel
theorem dX9_once_11 : decode cX9_once 11 = .ok (.iload_n 1, 1) := by decide +kernel
theorem dX9_once_12 : decode cX9_once 12 = .ok (.ishl, 1) := by decide +kernel
theorem dX9_once_13 : decode cX9_once 13 = .ok (.ior, 1) := by decide +kernel
theorem dX9_once_14 : decode cX9_once 14 = .ok (.iastore, 1) := by decide +kernel
theorem dX9_once_15 : decode cX9_once 15 = .ok (.aload_n 0, 1) := by decide +kernel
theorem dX9_once_16 : decode cX9_once 16 = .ok (.iconst 0, 1) := by decide +kernel
theorem dX9_once_17 : decode cX9_once 17 = .ok (.iload_n 2, 1) := by decide +kernel
theorem dX9_once_18 : decode cX9_once 18 = .ok (.invokevirtual 226, 3) := by decide +kernel
theorem dX9_once_21 : decode cX9_once 21 = .ok (.ireturn, 1) := by decide +kernel
theorem dX9_here_0 : decode cX9_here 0 = .ok (.iconst 0, 1) := by decide +kernel
theorem dX9_here_1 : decode cX9_here 1 = .ok (.istore_n 1, 1) := by decide +kernel
theorem dX9_here_2 : decode cX9_here 2 = .ok (.iload_n 1, 1) := by decide +kernel
theorem dX9_here_3 : decode cX9_here 3 = .ok (.aload_n 0, 1) := by decide +kernel
theorem dX9_here_4 : decode cX9_here 4 = .ok (.getfield 20, 3) := by decide +kernel
theorem dX9_here_7 : decode cX9_here 7 = .ok (.aload_n 0, 1) := by decide +kernel
theorem dX9_here_8 : decode cX9_here 8 = .ok (.getfield 230, 3) := by decide +kernel
theorem dX9_here_11 : decode cX9_here 11 = .ok (.iaload, 1) := by decide +kernel
theorem dX9_here_12 : decode cX9_here 12 = .ok (.if_icmp .ge 41, 3) := by decide +kernel
theorem dX9_here_15 : decode cX9_here 15 = .ok (.aload_n 0, 1) := by decide +kernel
theorem dX9_here_16 : decode cX9_here 16 = .ok (.getfield 181, 3) := by decide +kernel
theorem dX9_here_19 : decode cX9_here 19 = .ok (.iconst 2, 1) := by decide +kernel
theorem dX9_here_20 : decode cX9_here 20 = .ok (.if_icmp .ne 27, 3) := by decide +kernel
theorem dX9_here_23 : decode cX9_here 23 = .ok (.aload_n 0, 1) := by decide +kernel
theorem dX9_here_24 : decode cX9_here 24 = .ok (.getfield 57, 3) := by decide +kernel
theorem dX9_here_27 : decode cX9_here 27 = .ok (.bipush 10, 2) := by decide +kernel
theorem dX9_here_29 : decode cX9_here 29 = .ok (.aload_n 0, 1) := by decide +kernel
theorem dX9_here_30 : decode cX9_here 30 = .ok (.getfield 230, 3) := by decide +kernel
theorem dX9_here_33 : decode cX9_here 33 = .ok (.imul, 1) := by decide +kernel
theorem dX9_here_34 : decode cX9_here 34 = .ok (.iload_n 1, 1) := by decide +kernel
theorem dX9_here_35 : decode cX9_here 35 = .ok (.iadd, 1) := by decide +kernel
theorem dX9_here_36 : decode cX9_here 36 = .ok (.laload, 1) := by decide +kernel
theorem dX9_here_37 : decode cX9_here 37 = .ok (.aload_n 0, 1) := by decide +kernel
theorem dX9_here_38 : decode cX9_here 38 = .ok (.getfield 188, 3) := by decide +kernel
theorem dX9_here_41 : decode cX9_here 41 = .ok (.lcmp, 1) := by decide +kernel
theorem dX9_here_42 : decode cX9_here 42 = .ok (.ifCond .ne 5, 3) := by decide +kernel
theorem dX9_here_45 : decode cX9_here 45 = .ok (.iload_n 1, 1) := by decide +kernel
theorem dX9_here_46 : decode cX9_here 46 = .ok (.ireturn, 1) := by decide +kernel
theorem dX9_here_47 : decode cX9_here 47 = .ok (.iinc 1 1, 3) := by decide +kernel
theorem dX9_here_50 : decode cX9_here 50 = .ok (.goto (-48), 3) := by decide +kernel
theorem dX9_here_53 : decode cX9_here 53 = .ok (.iconst (-1), 1) := by decide +kernel
theorem dX9_here_54 : decode cX9_here 54 = .ok (.ireturn, 1) := by decide +kernel
set_option maxRecDepth 20000 in
theorem ggX9_fresh_X9_isGood : GoodIn wsX9_fresh wsX9_isGood := goodIn_r _ [8, 9, 64, 65, 66, 67, 68, 69, 70, 71, 72, 73, 74, 75, 76, 77, 78, 79, 80, 81, 82, 83, 84, 85, 86, 87, 88, 89, 90, 91, 92, 93, 94, 95, 96, 97, 98, 99, 100, 101, 102, 103, 104, 105, 106, 107, 108, 109, 110, 111, 112, 113, 114, 115, 116, 117, 118, 119, 120, 121, 122, 123, 124, 125, 126, 127] rfl rfl
set_option maxRecDepth 20000 in
theorem gX9_fresh_X9_isGood : GoodIn wsX9_fresh (wsV RX9 209 RX9 yX9_isGood wsX9_isGood) := goodIn_app (goodIn_of _ (by decide +kernel)) ggX9_fresh_X9_isGood
set_option maxRecDepth 20000 in
theorem ggX9_fresh_X9_misplaced : GoodIn wsX9_fresh wsX9_misplaced := goodIn_r _ [13, 1, 2, 14, 15, 16, 7, 17, 9, 18, 64, 65, 66, 67, 68, 69, 70, 71, 72, 73, 74, 75, 76, 77, 78, 79, 80, 81, 82, 83, 84, 85, 86, 87, 88, 89, 90, 91, 92, 93, 94, 95, 96, 97, 98, 99, 100, 101, 102, 103, 104, 105, 106, 107, 108, 109, 110, 111, 112, 113, 114, 115, 116, 117, 118, 119, 120, 121, 122, 123, 124, 125, 126, 127] rfl rfl
set_option maxRecDepth 20000 in
theorem gX9_fresh_X9_misplaced : GoodIn wsX9_fresh (wsV RX9 216 RX9 yX9_misplaced wsX9_misplaced) := goodIn_app (goodIn_of _ (by decide +kernel)) ggX9_fresh_X9_misplaced
set_option maxRecDepth 20000 in
theorem ggX9_fresh_X9_here : GoodIn wsX9_fresh wsX9_here := goodIn_r _ [22, 23, 24, 1, 25, 3, 64, 65, 66, 67, 68, 69, 70, 71, 72, 73, 74, 75, 76, 77, 78, 79, 80, 81, 82, 83, 84, 85, 86, 87, 88, 89, 90, 91, 92, 93, 94, 95, 96, 97, 98, 99, 100, 101, 102, 103, 104, 105, 106, 107, 108, 109, 110, 111, 112, 113, 114, 115, 116, 117, 118, 119, 120, 121, 122, 123, 124, 125, 126, 127] rfl rfl
set_option maxRecDepth 20000 in
theorem gX9_fresh_X9_here : GoodIn wsX9_fresh (wsV RX9 272 RX9 yX9_here wsX9_here) := goodIn_app (goodIn_of _ (by decide +kernel)) ggX9_fresh_X9_here
set_option maxRecDepth 20000 in
theorem ggX9_fresh_X9_fails : GoodIn wsX9_fresh wsX9_fails := goodIn_r _ [17, 9, 18, 64, 65, 66, 67, 68, 69, 70, 71, 72, 73, 74, 75, 76, 77, 78, 79, 80, 81, 82, 83, 84, 85, 86, 87, 88, 89, 90, 91, 92, 93, 94, 95, 96, 97, 98, 99, 100, 101, 102, 103, 104, 105, 106, 107, 108, 109, 110, 111, 112, 113, 114, 115, 116, 117, 118, 119, 120, 121, 122, 123, 124, 125, 126, 127] rfl rfl
set_option maxRecDepth 20000 in
theorem gX9_fresh_X9_fails : GoodIn wsX9_fresh (wsV RX9 205 RX9 yX9_fails wsX9_fails) := goodIn_app (goodIn_of _ (by decide +kernel)) ggX9_fresh_X9_fails
set_option maxRecDepth 20000 in
theorem ggX9_fresh_X9_goOn : GoodIn wsX9_fresh wsX9_goOn := goodIn_r _ [29, 30, 2, 31, 1, 3, 32, 33, 34, 35, 7, 36, 37, 38, 39, 40, 41, 42, 43, 44, 45, 46, 47, 48, 49, 50, 51, 52, 53, 54, 55, 56, 57, 58, 59, 60, 61, 62, 63, 64, 65, 66, 67, 68, 69, 70, 71, 72, 73, 74, 75, 76, 77, 78, 79, 80, 81, 82, 83, 84, 85, 86, 87, 88, 89, 90, 91, 92, 93, 94, 95, 96, 97, 98, 99, 100, 101, 102, 103, 104, 105, 106, 107, 108, 109, 110, 111, 112, 113, 114, 115, 116, 117, 118, 119, 120, 121, 122, 123, 124, 125, 126, 127] rfl rfl
set_option maxRecDepth 20000 in
theorem gX9_fresh_X9_goOn : GoodIn wsX9_fresh (wsV RX9 213 RX9 yX9_goOn wsX9_goOn) := goodIn_app (goodIn_of _ (by decide +kernel)) ggX9_fresh_X9_goOn
theorem dX9_fresh_0 : decode cX9_fresh 0 = .ok (.aload_n 0, 1) := by decide +kernel
theorem dX9_fresh_1 : decode cX9_fresh 1 = .ok (.invokevirtual 209, 3) := by decide +kernel
theorem dX9_fresh_4 : decode cX9_fresh 4 = .ok (.ifCond .ne 5, 3) := by decide +kernel
theorem dX9_fresh_7 : decode cX9_fresh 7 = .ok (.lconst 0, 1) := by decide +kernel
theorem dX9_fresh_8 : decode cX9_fresh 8 = .ok (.lreturn, 1) := by decide +kernel
theorem dX9_fresh_9 : decode cX9_fresh 9 = .ok (.aload_n 0, 1) := by decide +kernel
theorem dX9_fresh_10 : decode cX9_fresh 10 = .ok (.getfield 181, 3) := by decide +kernel
theorem dX9_fresh_13 : decode cX9_fresh 13 = .ok (.iconst 2, 1) := by decide +kernel
theorem dX9_fresh_14 : decode cX9_fresh 14 = .ok (.if_icmp .eq 10, 3) := by decide +kernel
theorem dX9_fresh_17 : decode cX9_fresh 17 = .ok (.aload_n 0, 1) := by decide +kernel
theorem dX9_fresh_18 : decode cX9_fresh 18 = .ok (.invokevirtual 216, 3) := by decide +kernel
theorem dX9_fresh_21 : decode cX9_fresh 21 = .ok (.goto 19, 3) := by decide +kernel
theorem dX9_fresh_24 : decode cX9_fresh 24 = .ok (.aload_n 0, 1) := by decide +kernel
theorem dX9_fresh_25 : decode cX9_fresh 25 = .ok (.invokevirtual 272, 3) := by decide +kernel
theorem dX9_fresh_28 : decode cX9_fresh 28 = .ok (.ifCond .lt 12, 3) := by decide +kernel
theorem dX9_fresh_31 : decode cX9_fresh 31 = .ok (.aload_n 0, 1) := by decide +kernel
theorem dX9_fresh_32 : decode cX9_fresh 32 = .ok (.iconst 3, 1) := by decide +kernel
theorem dX9_fresh_33 : decode cX9_fresh 33 = .ok (.aload_n 0, 1) := by decide +kernel
theorem dX9_fresh_34 : decode cX9_fresh 34 = .ok (.getfield 174, 3) := by decide +kernel
theorem dX9_fresh_37 : decode cX9_fresh 37 = .ok (.invokevirtual 205, 3) := by decide +kernel
theorem dX9_fresh_40 : decode cX9_fresh 40 = .ok (.aload_n 0, 1) := by decide +kernel
theorem dX9_fresh_41 : decode cX9_fresh 41 = .ok (.getfield 188, 3) := by decide +kernel
theorem dX9_fresh_44 : decode cX9_fresh 44 = .ok (.lstore_n 1, 1) := by decide +kernel
theorem dX9_fresh_45 : decode cX9_fresh 45 = .ok (.aload_n 0, 1) := by decide +kernel
theorem dX9_fresh_46 : decode cX9_fresh 46 = .ok (.invokevirtual 209, 3) := by decide +kernel
theorem dX9_fresh_49 : decode cX9_fresh 49 = .ok (.ifCond .eq 7, 3) := by decide +kernel
theorem dX9_fresh_52 : decode cX9_fresh 52 = .ok (.aload_n 0, 1) := by decide +kernel
theorem dX9_fresh_53 : decode cX9_fresh 53 = .ok (.invokevirtual 213, 3) := by decide +kernel
theorem dX9_fresh_56 : decode cX9_fresh 56 = .ok (.lload_n 1, 1) := by decide +kernel
theorem dX9_fresh_57 : decode cX9_fresh 57 = .ok (.lreturn, 1) := by decide +kernel
theorem dX9_emit_0 : decode cX9_emit 0 = .ok (.aload_n 0, 1) := by decide +kernel
theorem dX9_emit_1 : decode cX9_emit 1 = .ok (.getfield 61, 3) := by decide +kernel
theorem dX9_emit_4 : decode cX9_emit 4 = .ok (.aload_n 0, 1) := by decide +kernel
theorem dX9_emit_5 : decode cX9_emit 5 = .ok (.getfield 233, 3) := by decide +kernel
theorem dX9_emit_8 : decode cX9_emit 8 = .ok (.iload_n 1, 1) := by decide +kernel
theorem dX9_emit_9 : decode cX9_emit 9 = .ok (.iastore, 1) := by decide +kernel
theorem dX9_emit_10 : decode cX9_emit 10 = .ok (.aload_n 0, 1) := by decide +kernel
theorem dX9_emit_11 : decode cX9_emit 11 = .ok (.getfield 64, 3) := by decide +kernel
theorem dX9_emit_14 : decode cX9_emit 14 = .ok (.aload_n 0, 1) := by decide +kernel
theorem dX9_emit_15 : decode cX9_emit 15 = .ok (.getfield 233, 3) := by decide +kernel
theorem dX9_emit_18 : decode cX9_emit 18 = .ok (.iload_n 2, 1) := by decide +kernel
theorem dX9_emit_19 : decode cX9_emit 19 = .ok (.iastore, 1) := by decide +kernel
theorem dX9_emit_20 : decode cX9_emit 20 = .ok (.aload_n 0, 1) := by decide +kernel
theorem dX9_emit_21 : decode cX9_emit 21 = .ok (.dup, 1) := by decide +kernel
theorem dX9_emit_22 : decode cX9_emit 22 = .ok (.getfield 233, 3) := by decide +kernel
theorem dX9_emit_25 : decode cX9_emit 25 = .ok (.iconst 1, 1) := by decide +kernel
theorem dX9_emit_26 : decode cX9_emit 26 = .ok (.iadd, 1) := by decide +kernel
theorem dX9_emit_27 : decode cX9_emit 27 = .ok (.putfield 233, 3) := by decide +kernel
theorem dX9_emit_30 : decode cX9_emit 30 = .ok (.return_, 1) := by decide +kernel
theorem dX9_isCompared_0 : decode cX9_isCompared 0 = .ok (.aload_n 0, 1) := by decide +kernel
theorem dX9_isCompared_1 : decode cX9_isCompared 1 = .ok (.getfield 285, 3) := by decide +kernel
theorem dX9_isCompared_4 : decode cX9_isCompared 4 = .ok (.iconst 1, 1) := by decide +kernel
theorem dX9_isCompared_5 : decode cX9_isCompared 5 = .ok (.isub, 1) := by decide +kernel
theorem dX9_isCompared_6 : decode cX9_isCompared 6 = .ok (.istore_n 1, 1) := by decide +kernel
theorem dX9_isCompared_7 : decode cX9_isCompared 7 = .ok (.aload_n 0, 1) := by decide +kernel
theorem dX9_isCompared_8 : decode cX9_isCompared 8 = .ok (.getfield 67, 3) := by decide +kernel
theorem dX9_isCompared_11 : decode cX9_isCompared 11 = .ok (.iload_n 1, 1) := by decide +kernel
theorem dX9_isCompared_12 : decode cX9_isCompared 12 = .ok (.iaload, 1) := by decide +kernel
theorem dX9_isCompared_13 : decode cX9_isCompared 13 = .ok (.iconst 5, 1) := by decide +kernel
theorem dX9_isCompared_14 : decode cX9_isCompared 14 = .ok (.if_icmp .eq 14, 3) := by decide +kernel
theorem dX9_isCompared_17 : decode cX9_isCompared 17 = .ok (.aload_n 0, 1) := by decide +kernel
theorem dX9_isCompared_18 : decode cX9_isCompared 18 = .ok (.getfield 67, 3) := by decide +kernel
theorem dX9_isCompared_21 : decode cX9_isCompared 21 = .ok (.iload_n 1, 1) := by decide +kernel
theorem dX9_isCompared_22 : decode cX9_isCompared 22 = .ok (.iaload, 1) := by decide +kernel
theorem dX9_isCompared_23 : decode cX9_isCompared 23 = .ok (.bipush 6, 2) := by decide +kernel
theorem dX9_isCompared_25 : decode cX9_isCompared 25 = .ok (.if_icmp .ne 9, 3) := by decide +kernel
theorem dX9_isCompared_28 : decode cX9_isCompared 28 = .ok (.iinc 1 (-1), 3) := by decide +kernel
theorem dX9_isCompared_31 : decode cX9_isCompared 31 = .ok (.goto (-24), 3) := by decide +kernel
theorem dX9_isCompared_34 : decode cX9_isCompared 34 = .ok (.aload_n 0, 1) := by decide +kernel
theorem dX9_isCompared_35 : decode cX9_isCompared 35 = .ok (.getfield 67, 3) := by decide +kernel
theorem dX9_isCompared_38 : decode cX9_isCompared 38 = .ok (.iload_n 1, 1) := by decide +kernel
theorem dX9_isCompared_39 : decode cX9_isCompared 39 = .ok (.iaload, 1) := by decide +kernel
theorem dX9_isCompared_40 : decode cX9_isCompared 40 = .ok (.iconst 4, 1) := by decide +kernel
theorem dX9_isCompared_41 : decode cX9_isCompared 41 = .ok (.if_icmp .ne 7, 3) := by decide +kernel
theorem dX9_isCompared_44 : decode cX9_isCompared 44 = .ok (.iconst 1, 1) := by decide +kernel
theorem dX9_isCompared_45 : decode cX9_isCompared 45 = .ok (.goto 4, 3) := by decide +kernel
theorem dX9_isCompared_48 : decode cX9_isCompared 48 = .ok (.iconst 0, 1) := by decide +kernel
theorem dX9_isCompared_49 : decode cX9_isCompared 49 = .ok (.ireturn, 1) := by decide +kernel
theorem dX9_bit_0 : decode cX9_bit 0 = .ok (.iload_n 0, 1) := by decide +kernel
theorem dX9_bit_1 : decode cX9_bit 1 = .ok (.iload_n 1, 1) := by decide +kernel
theorem dX9_bit_2 : decode cX9_bit 2 = .ok (.ishr, 1) := by decide +kernel
theorem dX9_bit_3 : decode cX9_bit 3 = .ok (.iconst 1, 1) := by decide +kernel
theorem dX9_bit_4 : decode cX9_bit 4 = .ok (.iand, 1) := by decide +kernel
theorem dX9_bit_5 : decode cX9_bit 5 = .ok (.iconst 1, 1) := by decide +kernel
theorem dX9_bit_6 : decode cX9_bit 6 = .ok (.if_icmp .ne 7, 3) := by decide +kernel
theorem dX9_bit_9 : decode cX9_bit 9 = .ok (.iconst 1, 1) := by decide +kernel
theorem dX9_bit_10 : decode cX9_bit 10 = .ok (.goto 4, 3) := by decide +kernel
theorem dX9_bit_13 : decode cX9_bit 13 = .ok (.iconst 0, 1) := by decide +kernel
theorem dX9_bit_14 : decode cX9_bit 14 = .ok (.ireturn, 1) := by decide +kernel
theorem in_X9_isGood_X9 : ∀ w ∈ wsX90, w ∈ wsX9_isGood := fun _ h => List.mem_cons_of_mem _ (List.mem_append_right _ h)
theorem in_X9_isWord_X9 : ∀ w ∈ wsX90, w ∈ wsX9_isWord := fun _ h => List.mem_cons_of_mem _ (List.mem_append_right _ h)
theorem in_X9_fails_X9 : ∀ w ∈ wsX90, w ∈ wsX9_fails := fun _ h => List.mem_cons_of_mem _ (List.mem_append_right _ h)
theorem in_X9_misplaced_X9 : ∀ w ∈ wsX90, w ∈ wsX9_misplaced := fun _ h => List.mem_cons_of_mem _ (List.mem_append_right _ h)
theorem in_X9_numeral_X9 : ∀ w ∈ wsX90, w ∈ wsX9_numeral := fun _ h => List.mem_cons_of_mem _ (List.mem_append_right _ h)
theorem in_X9_here_X9 : ∀ w ∈ wsX90, w ∈ wsX9_here := fun _ h => List.mem_cons_of_mem _ (List.mem_append_right _ h)
theorem in_X9_fresh_X9 : ∀ w ∈ wsX90, w ∈ wsX9_fresh := fun _ h => List.mem_cons_of_mem _ (List.mem_append_right _ h)
theorem in_X9_isFull_X9 : ∀ w ∈ wsX90, w ∈ wsX9_isFull := fun _ h => List.mem_cons_of_mem _ (List.mem_append_right _ h)
theorem in_X9_isSignHere_X9 : ∀ w ∈ wsX90, w ∈ wsX9_isSignHere := fun _ h => List.mem_cons_of_mem _ (List.mem_append_right _ h)
theorem in_X9_once_X9 : ∀ w ∈ wsX90, w ∈ wsX9_once := fun _ h => List.mem_cons_of_mem _ (List.mem_append_right _ h)
theorem in_X9_emit_X9 : ∀ w ∈ wsX90, w ∈ wsX9_emit := fun _ h => List.mem_cons_of_mem _ (List.mem_append_right _ h)
theorem in_X9_isCompared_X9 : ∀ w ∈ wsX90, w ∈ wsX9_isCompared := fun _ h => List.mem_cons_of_mem _ (List.mem_append_right _ h)
set_option maxHeartbeats 4000000 in
set_option maxRecDepth 100000 in
theorem s_X9_isGood_0 (l : Launch) (B0 : Nat) (adK adV : Nat → Nat) (D : va_G) (cy : Nat → ClassId) (ad : Nat → Nat) (fr0 : Nat → va_E) (c_text : Nat → Int32) (m_taped : Int32) (m_size : Int32) (m_faultKind : Int32) (m_faultPlace : Int32) (m_at : Int32) (m_end : Int32) (m_token : Int32) (m_number : Int32) (m_name : Int64) (c_points : Nat → Int32) (c_strands : Nat → Int32) (c_units : Nat → Int32) (c_told : Nat → Int32) (c_ruleFrom : Nat → Int32) (c_ruleTo : Nat → Int32) (c_code : Nat → Int32) (c_eWhat : Nat → Int32) (c_eSign : Nat → Int32) (m_bank : Int32) (m_rb : Int32) (m_codes : Int32) (m_within : Int32) (m_piled : Int32) (m_unitsInRule : Int32) (m_askStrand : Int32) (m_askTied : Int32) (m_thoughtClaim : Int32) (m_thoughtNeed : Int32) (m_thoughtAll : Int32) (c_roundOf : Nat → Int32) (m_acts : Int32) (m_undone : Int32) (m_laid : Int32) (m_firstMove : Int32) (m_seens : Int32) (m_time : Int32) (m_waysNow : Int32) (m_fitting : Int32) (f : Nat → va_E) (hT : TYm ad cy fr0 c_text m_taped m_size m_faultKind m_faultPlace m_at m_end m_token m_number m_name c_points c_strands c_units c_told c_ruleFrom c_ruleTo c_code c_eWhat c_eSign m_bank m_rb m_codes m_within m_piled m_unitsInRule m_askStrand m_askTied m_thoughtClaim m_thoughtNeed m_thoughtAll c_roundOf m_acts m_undone m_laid m_firstMove m_seens m_time m_waysNow m_fitting f) (sz : Nat) : TtI l yX9_isGood wsX9_isGood 0 0 [.ref (ad 148)] B0 adK adV D cy ad f sz (fun (r : Int32) (g : Nat → va_E) => ((r = 1 ∧ m_faultKind.toInt = 0) ∨ (r = 0 ∧ 1 ≤ m_faultKind.toInt)) ∧ (f = g)) := by
  refine TtI.of (cc := cX9_isGood) (maxL := 1) (ty := .boolean) (own := RX9) (by decide) rfl (Nat.le_of_ble_eq_true rfl) rfl ?_
  intro p e s m below meth c A ls hx hb hr hml hts hown hlk hK hE hP hD hS hA hAB hl
  have hl : lv_has ls 1 [(0, .ref (ad 148))] := hl
  refine st0 (fun H locs hP hS => ?_) hP hS
  refine lv_aload_n hx hb dX9_isGood_0 rfl (lv_at hl 0 rfl) ?_
  obtain ⟨e16, h1, h2, h3, h4, h5, h6, h7, h8, h9, h10, h11, h12, h13, h14, h15⟩ := (show okX9 ad m_taped m_size m_faultKind m_faultPlace m_at m_end m_token m_number m_name m_bank m_rb m_codes m_within m_piled m_unitsInRule m_askStrand m_askTied m_thoughtClaim m_thoughtNeed m_thoughtAll m_acts m_undone m_laid m_firstMove m_seens m_time m_waysNow m_fitting 148 (f 148) from hT.1 148 (by decide))
  refine va_get (D := D) (cl := vwCl) (ci := 9) (v := .int m_faultKind) (C := RX9) (T := TX9) (N := 64) hx hb hts in_X9_isGood_X9 hown hK hP 148 (wl_at (by decide) e16) rfl 4 (by decide) (hts (.fieldLink RX9 140 "EightReasonsModel" "faultKind" "I") (List.mem_of_getElem? (i := 1) rfl)) (fun _ h9 => h9) rfl dX9_isGood_1 ?_
  have ttl_0 := tl_0
  refine lv_if_ne (tgt := 11) hx hb dX9_isGood_4 (by decide) (fun c17 => ?_) (fun c17 => ?_)
  · have kc17 := c_ne c17
    refine lv_iconst (v := 0) hx hb dX9_isGood_11 (by decide) ?_
    exact tI hx hb hr hlk rfl hP hS ⟨(Or.inr ⟨rfl, by omega⟩), rfl⟩ dX9_isGood_12
  · have kc17 := c_eq c17
    refine lv_iconst (v := 1) hx hb dX9_isGood_7 (by decide) ?_
    refine lv_goto (tgt := 12) hx hb dX9_isGood_8 (by decide) ?_
    have ttl_1 := tl_1
    exact tI hx hb hr hlk rfl hP hS ⟨(Or.inl ⟨rfl, by omega⟩), rfl⟩ dX9_isGood_12
set_option maxHeartbeats 4000000 in
set_option maxRecDepth 100000 in
theorem s_X9_isWord_0 (l : Launch) (B0 : Nat) (adK adV : Nat → Nat) (D : va_G) (cy : Nat → ClassId) (ad : Nat → Nat) (fr0 : Nat → va_E) (c_text : Nat → Int32) (m_taped : Int32) (m_size : Int32) (m_faultKind : Int32) (m_faultPlace : Int32) (m_at : Int32) (m_end : Int32) (m_token : Int32) (m_number : Int32) (m_name : Int64) (c_points : Nat → Int32) (c_strands : Nat → Int32) (c_units : Nat → Int32) (c_told : Nat → Int32) (c_ruleFrom : Nat → Int32) (c_ruleTo : Nat → Int32) (c_code : Nat → Int32) (c_eWhat : Nat → Int32) (c_eSign : Nat → Int32) (m_bank : Int32) (m_rb : Int32) (m_codes : Int32) (m_within : Int32) (m_piled : Int32) (m_unitsInRule : Int32) (m_askStrand : Int32) (m_askTied : Int32) (m_thoughtClaim : Int32) (m_thoughtNeed : Int32) (m_thoughtAll : Int32) (c_roundOf : Nat → Int32) (m_acts : Int32) (m_undone : Int32) (m_laid : Int32) (m_firstMove : Int32) (m_seens : Int32) (m_time : Int32) (m_waysNow : Int32) (m_fitting : Int32) (f : Nat → va_E) (hT : TYm ad cy fr0 c_text m_taped m_size m_faultKind m_faultPlace m_at m_end m_token m_number m_name c_points c_strands c_units c_told c_ruleFrom c_ruleTo c_code c_eWhat c_eSign m_bank m_rb m_codes m_within m_piled m_unitsInRule m_askStrand m_askTied m_thoughtClaim m_thoughtNeed m_thoughtAll c_roundOf m_acts m_undone m_laid m_firstMove m_seens m_time m_waysNow m_fitting f) (p1 : Int64) (sz : Nat) : TtI l yX9_isWord wsX9_isWord 0 0 [.ref (ad 148), .long p1] B0 adK adV D cy ad f sz (fun (r : Int32) (g : Nat → va_E) => ((r = 1 ∧ m_token.toInt = 3 ∧ m_name.toInt = p1.toInt) ∨ (r = 0 ∧ (m_token.toInt = 3 → ¬ m_name.toInt = p1.toInt))) ∧ (f = g)) := by
  refine TtI.of (cc := cX9_isWord) (maxL := 3) (ty := .boolean) (own := RX9) (by decide) rfl (Nat.le_of_ble_eq_true rfl) rfl ?_
  intro p e s m below meth c A ls hx hb hr hml hts hown hlk hK hE hP hD hS hA hAB hl
  have hl : lv_has ls 3 [(0, .ref (ad 148)), (1, .long p1)] := hl
  refine st0 (fun H locs hP hS => ?_) hP hS
  refine lv_aload_n hx hb dX9_isWord_0 rfl (lv_at hl 0 rfl) ?_
  obtain ⟨e16, h1, h2, h3, h4, h5, h6, h7, h8, h9, h10, h11, h12, h13, h14, h15⟩ := (show okX9 ad m_taped m_size m_faultKind m_faultPlace m_at m_end m_token m_number m_name m_bank m_rb m_codes m_within m_piled m_unitsInRule m_askStrand m_askTied m_thoughtClaim m_thoughtNeed m_thoughtAll m_acts m_undone m_laid m_firstMove m_seens m_time m_waysNow m_fitting 148 (f 148) from hT.1 148 (by decide))
  refine va_get (D := D) (cl := vwCl) (ci := 9) (v := .int m_token) (C := RX9) (T := TX9) (N := 64) hx hb hts in_X9_isWord_X9 hown hK hP 148 (wl_at (by decide) e16) rfl 8 (by decide) (hts (.fieldLink RX9 181 "EightReasonsModel" "token" "I") (List.mem_of_getElem? (i := 1) rfl)) (fun _ h9 => h9) rfl dX9_isWord_1 ?_
  refine lv_iconst (v := 3) hx hb dX9_isWord_4 (by decide) ?_
  have ttl_3 := tl_3
  refine lv_icmp_ne (tgt := 21) hx hb dX9_isWord_5 (by decide) (fun c17 => ?_) (fun c17 => ?_)
  · have kc17 := c_ne c17
    refine lv_iconst (v := 0) hx hb dX9_isWord_21 (by decide) ?_
    have ttl_0 := tl_0
    exact tI hx hb hr hlk rfl hP hS ⟨(Or.inr ⟨rfl, by omega⟩), rfl⟩ dX9_isWord_22
  · have kc17 := c_eq c17
    refine lv_aload_n hx hb dX9_isWord_8 rfl (lv_at hl 0 rfl) ?_
    refine va_get (D := D) (cl := vwCl) (ci := 9) (v := .long m_name) (C := RX9) (T := TX9) (N := 64) hx hb hts in_X9_isWord_X9 hown hK hP 148 (wl_at (by decide) e16) rfl 10 (by decide) (hts (.fieldLink RX9 188 "EightReasonsModel" "name" "J") (List.mem_of_getElem? (i := 2) rfl)) (fun _ h9 => h9) rfl dX9_isWord_9 ?_
    refine lv_lload_n hx hb dX9_isWord_12 rfl (lv_at hl 1 rfl) ?_
    refine lvcmp hx hb dX9_isWord_13 (fun x18 hx18 => ?_)
    have ttl_0 := tl_0
    refine lv_if_ne (tgt := 21) hx hb dX9_isWord_14 (by decide) (fun c19 => ?_) (fun c19 => ?_)
    · have kc19 := c_ne c19
      refine lv_iconst (v := 0) hx hb dX9_isWord_21 (by decide) ?_
      exact tI hx hb hr hlk rfl hP hS ⟨(Or.inr ⟨rfl, by omega⟩), rfl⟩ dX9_isWord_22
    · have kc19 := c_eq c19
      refine lv_iconst (v := 1) hx hb dX9_isWord_17 (by decide) ?_
      refine lv_goto (tgt := 22) hx hb dX9_isWord_18 (by decide) ?_
      have ttl_1 := tl_1
      exact tI hx hb hr hlk rfl hP hS ⟨(Or.inl ⟨rfl, by omega, by omega⟩), rfl⟩ dX9_isWord_22
set_option maxHeartbeats 4000000 in
set_option maxRecDepth 100000 in
theorem s_X9_fails_0 (l : Launch) (B0 : Nat) (adK adV : Nat → Nat) (D : va_G) (cy : Nat → ClassId) (ad : Nat → Nat) (fr0 : Nat → va_E) (c_text : Nat → Int32) (m_taped : Int32) (m_size : Int32) (m_faultKind : Int32) (m_faultPlace : Int32) (m_at : Int32) (m_end : Int32) (m_token : Int32) (m_number : Int32) (m_name : Int64) (c_points : Nat → Int32) (c_strands : Nat → Int32) (c_units : Nat → Int32) (c_told : Nat → Int32) (c_ruleFrom : Nat → Int32) (c_ruleTo : Nat → Int32) (c_code : Nat → Int32) (c_eWhat : Nat → Int32) (c_eSign : Nat → Int32) (m_bank : Int32) (m_rb : Int32) (m_codes : Int32) (m_within : Int32) (m_piled : Int32) (m_unitsInRule : Int32) (m_askStrand : Int32) (m_askTied : Int32) (m_thoughtClaim : Int32) (m_thoughtNeed : Int32) (m_thoughtAll : Int32) (c_roundOf : Nat → Int32) (m_acts : Int32) (m_undone : Int32) (m_laid : Int32) (m_firstMove : Int32) (m_seens : Int32) (m_time : Int32) (m_waysNow : Int32) (m_fitting : Int32) (f : Nat → va_E) (hT : TYm ad cy fr0 c_text m_taped m_size m_faultKind m_faultPlace m_at m_end m_token m_number m_name c_points c_strands c_units c_told c_ruleFrom c_ruleTo c_code c_eWhat c_eSign m_bank m_rb m_codes m_within m_piled m_unitsInRule m_askStrand m_askTied m_thoughtClaim m_thoughtNeed m_thoughtAll c_roundOf m_acts m_undone m_laid m_firstMove m_seens m_time m_waysNow m_fitting f) (p1 : Int32) (hp1 : 1 ≤ p1.toInt ∧ p1.toInt ≤ 5) (p2 : Int32) (hp2 : 0 ≤ p2.toInt ∧ p2.toInt ≤ 1600) (sz : Nat) : TtV l yX9_fails wsX9_fails 0 0 [.ref (ad 148), .int p1, .int p2] B0 adK adV D cy ad f sz (fun (g : Nat → va_E) => True ∧ (∃ (m_faultKind' : Int32) (m_faultPlace' : Int32), TYm ad cy fr0 c_text m_taped m_size m_faultKind' m_faultPlace' m_at m_end m_token m_number m_name c_points c_strands c_units c_told c_ruleFrom c_ruleTo c_code c_eWhat c_eSign m_bank m_rb m_codes m_within m_piled m_unitsInRule m_askStrand m_askTied m_thoughtClaim m_thoughtNeed m_thoughtAll c_roundOf m_acts m_undone m_laid m_firstMove m_seens m_time m_waysNow m_fitting g ∧ (1 ≤ m_faultKind'.toInt ∧ m_faultKind'.toInt ≤ 5))) := by
  refine TtV.of (cc := cX9_fails) (maxL := 3) (own := RX9) (by decide) rfl (Nat.le_of_ble_eq_true rfl) rfl ?_
  intro p e s m below meth c A ls hx hb hr hml hts hown hlk hK hE hP hD hS hA hAB hl
  have hl : lv_has ls 3 [(0, .ref (ad 148)), (1, .int p1), (2, .int p2)] := hl
  refine st0 (fun H locs hP hS => ?_) hP hS
  refine lv_aload_n hx hb dX9_fails_0 rfl (lv_at hl 0 rfl) ?_
  obtain ⟨e16, h1, h2, h3, h4, h5, h6, h7, h8, h9, h10, h11, h12, h13, h14, h15⟩ := (show okX9 ad m_taped m_size m_faultKind m_faultPlace m_at m_end m_token m_number m_name m_bank m_rb m_codes m_within m_piled m_unitsInRule m_askStrand m_askTied m_thoughtClaim m_thoughtNeed m_thoughtAll m_acts m_undone m_laid m_firstMove m_seens m_time m_waysNow m_fitting 148 (f 148) from hT.1 148 (by decide))
  refine va_get (D := D) (cl := vwCl) (ci := 9) (v := .int m_faultKind) (C := RX9) (T := TX9) (N := 64) hx hb hts in_X9_fails_X9 hown hK hP 148 (wl_at (by decide) e16) rfl 4 (by decide) (hts (.fieldLink RX9 140 "EightReasonsModel" "faultKind" "I") (List.mem_of_getElem? (i := 1) rfl)) (fun _ h9 => h9) rfl dX9_fails_1 ?_
  have ttl_0 := tl_0
  refine lv_if_le (tgt := 8) hx hb dX9_fails_4 (by decide) (fun c17 => ?_) (fun c17 => ?_)
  · have kc17 := c_le c17
    refine lv_aload_n hx hb dX9_fails_8 rfl (lv_at hl 0 rfl) ?_
    refine lv_iload_n hx hb dX9_fails_9 rfl (lv_at hl 1 rfl) ?_
    refine va_put (D := D) (cl := vwCl) (ci := 9) (v := .int p1) (ty := tyX9 4) (C := RX9) (T := TX9) (N := 64) hx hb hts in_X9_fails_X9 tyX9 tyX9_ok nmX9 hown hK hP hD hS 148 (wl_at (by decide) e16) rfl 4 (by decide) (hts (.fieldLink RX9 140 "EightReasonsModel" "faultKind" "I") (List.mem_of_getElem? (i := 1) rfl)) (fun _ h9 => h9) rfl (tyX9_ok 4 (by decide)) rfl rfl (Nat.le_of_ble_eq_true rfl) dX9_fails_10 (fun H locs hP hD hS => ?_)
    obtain ⟨f, hT, hP, hD, e18, hj19⟩ := stU (by decide) (TYm.p148 hT (show OKm ad cy c_text m_taped m_size p1 m_faultPlace m_at m_end m_token m_number m_name c_points c_strands c_units c_told c_ruleFrom c_ruleTo c_code c_eWhat c_eSign m_bank m_rb m_codes m_within m_piled m_unitsInRule m_askStrand m_askTied m_thoughtClaim m_thoughtNeed m_thoughtAll c_roundOf m_acts m_undone m_laid m_firstMove m_seens m_time m_waysNow m_fitting 148 _ from (show okX9 ad m_taped m_size p1 m_faultPlace m_at m_end m_token m_number m_name m_bank m_rb m_codes m_within m_piled m_unitsInRule m_askStrand m_askTied m_thoughtClaim m_thoughtNeed m_thoughtAll m_acts m_undone m_laid m_firstMove m_seens m_time m_waysNow m_fitting 148 _ from ⟨rfl, by omega, by omega, by omega, by omega, by omega, by omega, by omega, by omega, by omega, by omega, by omega, by omega, by omega, by omega, by omega⟩))) hP hD
    refine lv_aload_n hx hb dX9_fails_13 rfl (lv_at hl 0 rfl) ?_
    refine lv_iload_n hx hb dX9_fails_14 rfl (lv_at hl 2 rfl) ?_
    refine va_put (D := D) (cl := vwCl) (ci := 9) (v := .int p2) (ty := tyX9 5) (C := RX9) (T := TX9) (N := 64) hx hb hts in_X9_fails_X9 tyX9 tyX9_ok nmX9 hown hK hP hD hS 148 (wl_at (by decide) e18) rfl 5 (by decide) (hts (.fieldLink RX9 16 "EightReasonsModel" "faultPlace" "I") (List.mem_of_getElem? (i := 2) rfl)) (fun _ h9 => h9) rfl (tyX9_ok 5 (by decide)) rfl rfl (Nat.le_of_ble_eq_true rfl) dX9_fails_15 (fun H locs hP hD hS => ?_)
    obtain ⟨f, hT, hP, hD, e20, hj21⟩ := stU (by decide) (TYm.p148 hT (show OKm ad cy c_text m_taped m_size p1 p2 m_at m_end m_token m_number m_name c_points c_strands c_units c_told c_ruleFrom c_ruleTo c_code c_eWhat c_eSign m_bank m_rb m_codes m_within m_piled m_unitsInRule m_askStrand m_askTied m_thoughtClaim m_thoughtNeed m_thoughtAll c_roundOf m_acts m_undone m_laid m_firstMove m_seens m_time m_waysNow m_fitting 148 _ from (show okX9 ad m_taped m_size p1 p2 m_at m_end m_token m_number m_name m_bank m_rb m_codes m_within m_piled m_unitsInRule m_askStrand m_askTied m_thoughtClaim m_thoughtNeed m_thoughtAll m_acts m_undone m_laid m_firstMove m_seens m_time m_waysNow m_fitting 148 _ from ⟨rfl, by omega, by omega, by omega, by omega, by omega, by omega, by omega, by omega, by omega, by omega, by omega, by omega, by omega, by omega, by omega⟩))) hP hD
    exact tV hx hb hr hlk hP hS ⟨trivial, ⟨p1, p2, hT, by omega⟩⟩ dX9_fails_18
  · have kc17 := c_nle c17
    exact tV hx hb hr hlk hP hS ⟨trivial, ⟨m_faultKind, m_faultPlace, hT, by omega⟩⟩ dX9_fails_7
set_option maxHeartbeats 4000000 in
set_option maxRecDepth 100000 in
theorem s_X9_misplaced_0 (l : Launch) (B0 : Nat) (adK adV : Nat → Nat) (D : va_G) (cy : Nat → ClassId) (ad : Nat → Nat) (fr0 : Nat → va_E) (c_text : Nat → Int32) (m_taped : Int32) (m_size : Int32) (m_faultKind : Int32) (m_faultPlace : Int32) (m_at : Int32) (m_end : Int32) (m_token : Int32) (m_number : Int32) (m_name : Int64) (c_points : Nat → Int32) (c_strands : Nat → Int32) (c_units : Nat → Int32) (c_told : Nat → Int32) (c_ruleFrom : Nat → Int32) (c_ruleTo : Nat → Int32) (c_code : Nat → Int32) (c_eWhat : Nat → Int32) (c_eSign : Nat → Int32) (m_bank : Int32) (m_rb : Int32) (m_codes : Int32) (m_within : Int32) (m_piled : Int32) (m_unitsInRule : Int32) (m_askStrand : Int32) (m_askTied : Int32) (m_thoughtClaim : Int32) (m_thoughtNeed : Int32) (m_thoughtAll : Int32) (c_roundOf : Nat → Int32) (m_acts : Int32) (m_undone : Int32) (m_laid : Int32) (m_firstMove : Int32) (m_seens : Int32) (m_time : Int32) (m_waysNow : Int32) (m_fitting : Int32) (f : Nat → va_E) (hT : TYm ad cy fr0 c_text m_taped m_size m_faultKind m_faultPlace m_at m_end m_token m_number m_name c_points c_strands c_units c_told c_ruleFrom c_ruleTo c_code c_eWhat c_eSign m_bank m_rb m_codes m_within m_piled m_unitsInRule m_askStrand m_askTied m_thoughtClaim m_thoughtNeed m_thoughtAll c_roundOf m_acts m_undone m_laid m_firstMove m_seens m_time m_waysNow m_fitting f) (sz : Nat) : TtV l yX9_misplaced wsX9_misplaced 1 22 [.ref (ad 148)] B0 adK adV D cy ad f sz (fun (g : Nat → va_E) => True ∧ (∃ (m_faultKind' : Int32) (m_faultPlace' : Int32), TYm ad cy fr0 c_text m_taped m_size m_faultKind' m_faultPlace' m_at m_end m_token m_number m_name c_points c_strands c_units c_told c_ruleFrom c_ruleTo c_code c_eWhat c_eSign m_bank m_rb m_codes m_within m_piled m_unitsInRule m_askStrand m_askTied m_thoughtClaim m_thoughtNeed m_thoughtAll c_roundOf m_acts m_undone m_laid m_firstMove m_seens m_time m_waysNow m_fitting g ∧ (1 ≤ m_faultKind'.toInt ∧ m_faultKind'.toInt ≤ 5))) := by
  refine TtV.of (cc := cX9_misplaced) (maxL := 1) (own := RX9) (by decide) rfl (Nat.le_of_ble_eq_true rfl) rfl ?_
  intro p e s m below meth c A ls hx hb hr hml hts hown hlk hK hE hP hD hS hA hAB hl
  have hl : lv_has ls 1 [(0, .ref (ad 148))] := hl
  refine st0 (fun H locs hP hS => ?_) hP hS
  have j14 : ∀ (f : Nat → va_E) (H : Heap) (locs : List Loc) (ls : Array Slot) (v14_s1 : Int32), (1 ≤ v14_s1.toInt ∧ v14_s1.toInt ≤ 2) → (TYm ad cy fr0 c_text m_taped m_size m_faultKind m_faultPlace m_at m_end m_token m_number m_name c_points c_strands c_units c_told c_ruleFrom c_ruleTo c_code c_eWhat c_eSign m_bank m_rb m_codes m_within m_piled m_unitsInRule m_askStrand m_askTied m_thoughtClaim m_thoughtNeed m_thoughtAll c_roundOf m_acts m_undone m_laid m_firstMove m_seens m_time m_waysNow m_fitting f) → (va_P D vwCl (wl ad f) H) → (va_D A (wl ad f)) → (va_S A s.heap H locs) → (lv_has ls 1 [(0, .ref (ad 148))]) → W p l e (rmO 1 22 0 0) s m ([.ref (ad 148)] : List Value).toArray below meth c H locs 0 0 (MQ below (va_Qv (fun (g : Nat → va_E) => True ∧ (∃ (m_faultKind' : Int32) (m_faultPlace' : Int32), TYm ad cy fr0 c_text m_taped m_size m_faultKind' m_faultPlace' m_at m_end m_token m_number m_name c_points c_strands c_units c_told c_ruleFrom c_ruleTo c_code c_eWhat c_eSign m_bank m_rb m_codes m_within m_piled m_unitsInRule m_askStrand m_askTied m_thoughtClaim m_thoughtNeed m_thoughtAll c_roundOf m_acts m_undone m_laid m_firstMove m_seens m_time m_waysNow m_fitting g ∧ (1 ≤ m_faultKind'.toInt ∧ m_faultKind'.toInt ≤ 5))) (fun g t => PstT D ad g t) A) ([.ref (ad 148)] : List Value).toArray s 0 0 A) (F0 m 14 ls [.int v14_s1, .ref (ad 148)]) := by
    intro f H locs ls v14_s1 hv14_s1 hT hP hD hS hl
    refine lv_aload_n hx hb dX9_misplaced_14 rfl (lv_at hl 0 rfl) ?_
    obtain ⟨e16, h1, h2, h3, h4, h5, h6, h7, h8, h9, h10, h11, h12, h13, h14, h15⟩ := (show okX9 ad m_taped m_size m_faultKind m_faultPlace m_at m_end m_token m_number m_name m_bank m_rb m_codes m_within m_piled m_unitsInRule m_askStrand m_askTied m_thoughtClaim m_thoughtNeed m_thoughtAll m_acts m_undone m_laid m_firstMove m_seens m_time m_waysNow m_fitting 148 (f 148) from hT.1 148 (by decide))
    refine va_get (D := D) (cl := vwCl) (ci := 9) (v := .int m_at) (C := RX9) (T := TX9) (N := 64) hx hb hts in_X9_misplaced_X9 hown hK hP 148 (wl_at (by decide) e16) rfl 6 (by decide) (hts (.fieldLink RX9 174 "EightReasonsModel" "at" "I") (List.mem_of_getElem? (i := 2) rfl)) (fun _ h9 => h9) rfl dX9_misplaced_15 ?_
    refine tVV (As := [.int v14_s1, .int m_at]) (rest := []) (i := 148) ⟨hx, hb, hml, hown, hts⟩ hK hE hP hD hS hA hAB (s_X9_fails_0 l B0 adK adV D cy ad fr0 c_text m_taped m_size m_faultKind m_faultPlace m_at m_end m_token m_number m_name c_points c_strands c_units c_told c_ruleFrom c_ruleTo c_code c_eWhat c_eSign m_bank m_rb m_codes m_within m_piled m_unitsInRule m_askStrand m_askTied m_thoughtClaim m_thoughtNeed m_thoughtAll c_roundOf m_acts m_undone m_laid m_firstMove m_seens m_time m_waysNow m_fitting f hT v14_s1 (by omega) m_at (by omega) _) (cwV 2 hts gX9_misplaced_X9_fails rfl rfl rfl (by decide +kernel) ⟨Nat.le_of_ble_eq_true rfl, Nat.le_of_ble_eq_true rfl⟩) (by decide) 9 e16 rfl rfl hl.1 rfl (Nat.le_of_ble_eq_true rfl) dX9_misplaced_18 ⟨Nat.le_of_ble_eq_true rfl, Nat.le_of_ble_eq_true rfl⟩ (fun f H locs hw hP hD hS => ?_)
    obtain ⟨hrs, x17, x18, hT, h19⟩ := hw
    exact tV hx hb hr hlk hP hS ⟨trivial, ⟨x17, x18, hT, by omega⟩⟩ dX9_misplaced_21
  refine lv_aload_n hx hb dX9_misplaced_0 rfl (lv_at hl 0 rfl) ?_
  refine lv_aload_n hx hb dX9_misplaced_1 rfl (lv_at hl 0 rfl) ?_
  obtain ⟨e35, h20, h21, h22, h23, h24, h25, h26, h27, h28, h29, h30, h31, h32, h33, h34⟩ := (show okX9 ad m_taped m_size m_faultKind m_faultPlace m_at m_end m_token m_number m_name m_bank m_rb m_codes m_within m_piled m_unitsInRule m_askStrand m_askTied m_thoughtClaim m_thoughtNeed m_thoughtAll m_acts m_undone m_laid m_firstMove m_seens m_time m_waysNow m_fitting 148 (f 148) from hT.1 148 (by decide))
  refine va_get (D := D) (cl := vwCl) (ci := 9) (v := .int m_token) (C := RX9) (T := TX9) (N := 64) hx hb hts in_X9_misplaced_X9 hown hK hP 148 (wl_at (by decide) e35) rfl 8 (by decide) (hts (.fieldLink RX9 181 "EightReasonsModel" "token" "I") (List.mem_of_getElem? (i := 1) rfl)) (fun _ h9 => h9) rfl dX9_misplaced_2 ?_
  refine lv_iconst (v := 1) hx hb dX9_misplaced_5 (by decide) ?_
  have ttl_1 := tl_1
  refine lv_icmp_ne (tgt := 13) hx hb dX9_misplaced_6 (by decide) (fun c36 => ?_) (fun c36 => ?_)
  · have kc36 := c_ne c36
    refine lv_iconst (v := 2) hx hb dX9_misplaced_13 (by decide) ?_
    have ttl_2 := tl_2
    exact j14 f H locs ls (2 : Int32) (by omega) hT hP hD hS (lv_sub hl [0] rfl)
  · have kc36 := c_eq c36
    refine lv_iconst (v := 1) hx hb dX9_misplaced_9 (by decide) ?_
    refine lv_goto (tgt := 14) hx hb dX9_misplaced_10 (by decide) ?_
    exact j14 f H locs ls (1 : Int32) (by omega) hT hP hD hS (lv_sub hl [0] rfl)
set_option maxHeartbeats 4000000 in
set_option maxRecDepth 100000 in
theorem s_X9_must_0 (l : Launch) (B0 : Nat) (adK adV : Nat → Nat) (D : va_G) (cy : Nat → ClassId) (ad : Nat → Nat) (fr0 : Nat → va_E) (c_text : Nat → Int32) (m_taped : Int32) (m_size : Int32) (m_faultKind : Int32) (m_faultPlace : Int32) (m_at : Int32) (m_end : Int32) (m_token : Int32) (m_number : Int32) (m_name : Int64) (c_points : Nat → Int32) (c_strands : Nat → Int32) (c_units : Nat → Int32) (c_told : Nat → Int32) (c_ruleFrom : Nat → Int32) (c_ruleTo : Nat → Int32) (c_code : Nat → Int32) (c_eWhat : Nat → Int32) (c_eSign : Nat → Int32) (m_bank : Int32) (m_rb : Int32) (m_codes : Int32) (m_within : Int32) (m_piled : Int32) (m_unitsInRule : Int32) (m_askStrand : Int32) (m_askTied : Int32) (m_thoughtClaim : Int32) (m_thoughtNeed : Int32) (m_thoughtAll : Int32) (c_roundOf : Nat → Int32) (m_acts : Int32) (m_undone : Int32) (m_laid : Int32) (m_firstMove : Int32) (m_seens : Int32) (m_time : Int32) (m_waysNow : Int32) (m_fitting : Int32) (f : Nat → va_E) (hT : TYm ad cy fr0 c_text m_taped m_size m_faultKind m_faultPlace m_at m_end m_token m_number m_name c_points c_strands c_units c_told c_ruleFrom c_ruleTo c_code c_eWhat c_eSign m_bank m_rb m_codes m_within m_piled m_unitsInRule m_askStrand m_askTied m_thoughtClaim m_thoughtNeed m_thoughtAll c_roundOf m_acts m_undone m_laid m_firstMove m_seens m_time m_waysNow m_fitting f) (p1 : Int32) (hp1 : 0 ≤ p1.toInt ∧ p1.toInt ≤ 1) (hph_m_end : 0 ≤ m_end.toInt ∧ m_end.toInt ≤ 1600) (hh0 : ((m_token.toInt = 0 ∧ m_at.toInt = m_size.toInt ∧ m_end.toInt = m_size.toInt) ∨ (1 ≤ m_token.toInt ∧ m_at.toInt < m_end.toInt ∧ m_end.toInt ≤ m_size.toInt))) (sz : Nat) : TtV l yX9_must wsX9_must 2 44 [.ref (ad 148), .int p1] B0 adK adV D cy ad f sz (fun (g : Nat → va_E) => True ∧ (∃ (m_faultKind' : Int32) (m_faultPlace' : Int32) (m_at' : Int32) (m_end' : Int32) (m_token' : Int32) (m_number' : Int32) (m_name' : Int64), TYm ad cy fr0 c_text m_taped m_size m_faultKind' m_faultPlace' m_at' m_end' m_token' m_number' m_name' c_points c_strands c_units c_told c_ruleFrom c_ruleTo c_code c_eWhat c_eSign m_bank m_rb m_codes m_within m_piled m_unitsInRule m_askStrand m_askTied m_thoughtClaim m_thoughtNeed m_thoughtAll c_roundOf m_acts m_undone m_laid m_firstMove m_seens m_time m_waysNow m_fitting g ∧ (0 ≤ m_end'.toInt ∧ m_end'.toInt ≤ 1600) ∧ ((m_token'.toInt = 0 ∧ m_at'.toInt = m_size.toInt ∧ m_end'.toInt = m_size.toInt) ∨ (1 ≤ m_token'.toInt ∧ m_at'.toInt < m_end'.toInt ∧ m_end'.toInt ≤ m_size.toInt)) ∧ m_at.toInt ≤ m_at'.toInt)) := by
  refine TtV.of (cc := cX9_must) (maxL := 2) (own := RX9) (by decide) rfl (Nat.le_of_ble_eq_true rfl) rfl ?_
  intro p e s m below meth c A ls hx hb hr hml hts hown hlk hK hE hP hD hS hA hAB hl
  have hl : lv_has ls 2 [(0, .ref (ad 148)), (1, .int p1)] := hl
  refine st0 (fun H locs hP hS => ?_) hP hS
  refine lv_aload_n hx hb dX9_must_0 rfl (lv_at hl 0 rfl) ?_
  obtain ⟨e16, h1, h2, h3, h4, h5, h6, h7, h8, h9, h10, h11, h12, h13, h14, h15⟩ := (show okX9 ad m_taped m_size m_faultKind m_faultPlace m_at m_end m_token m_number m_name m_bank m_rb m_codes m_within m_piled m_unitsInRule m_askStrand m_askTied m_thoughtClaim m_thoughtNeed m_thoughtAll m_acts m_undone m_laid m_firstMove m_seens m_time m_waysNow m_fitting 148 (f 148) from hT.1 148 (by decide))
  refine tVI (As := []) (rest := []) (i := 148) ⟨hx, hb, hml, hown, hts⟩ hK hE hP hD hS hA hAB (s_X9_isGood_0 l B0 adK adV D cy ad fr0 c_text m_taped m_size m_faultKind m_faultPlace m_at m_end m_token m_number m_name c_points c_strands c_units c_told c_ruleFrom c_ruleTo c_code c_eWhat c_eSign m_bank m_rb m_codes m_within m_piled m_unitsInRule m_askStrand m_askTied m_thoughtClaim m_thoughtNeed m_thoughtAll c_roundOf m_acts m_undone m_laid m_firstMove m_seens m_time m_waysNow m_fitting f hT _) (cwV 0 hts gX9_must_X9_isGood rfl rfl rfl (by decide +kernel) ⟨Nat.le_of_ble_eq_true rfl, Nat.le_of_ble_eq_true rfl⟩) (by decide) 9 e16 rfl rfl hl.1 rfl (Nat.le_of_ble_eq_true rfl) dX9_must_1 ⟨Nat.le_of_ble_eq_true rfl, Nat.le_of_ble_eq_true rfl⟩ (fun r g H locs hw hP hD hS => ?_)
  obtain ⟨hrs, rfl⟩ := hw
  obtain ⟨x17, rfl⟩ : ∃ q, q = r := ⟨_, rfl⟩
  rcases hrs with ⟨rfl, h18⟩ | ⟨rfl, h19⟩
  · refine lv_if_ne (tgt := 8) hx hb dX9_must_4 (by decide) (fun _ => ?_) (fun c => absurd c (by decide))
    refine lv_iload_n hx hb dX9_must_8 rfl (lv_at hl 1 rfl) ?_
    have ttl_0 := tl_0
    refine lv_if_eq (tgt := 19) hx hb dX9_must_9 (by decide) (fun c20 => ?_) (fun c20 => ?_)
    · have kc20 := c_eq c20
      refine lv_aload_n hx hb dX9_must_19 rfl (lv_at hl 0 rfl) ?_
      refine tVV (As := []) (rest := []) (i := 148) ⟨hx, hb, hml, hown, hts⟩ hK hE hP hD hS hA hAB (s_X9_misplaced_0 l B0 adK adV D cy ad fr0 c_text m_taped m_size m_faultKind m_faultPlace m_at m_end m_token m_number m_name c_points c_strands c_units c_told c_ruleFrom c_ruleTo c_code c_eWhat c_eSign m_bank m_rb m_codes m_within m_piled m_unitsInRule m_askStrand m_askTied m_thoughtClaim m_thoughtNeed m_thoughtAll c_roundOf m_acts m_undone m_laid m_firstMove m_seens m_time m_waysNow m_fitting f hT _) (cwV 0 hts gX9_must_X9_misplaced rfl rfl rfl (by decide +kernel) ⟨Nat.le_of_ble_eq_true rfl, Nat.le_of_ble_eq_true rfl⟩) (by decide) 9 e16 rfl rfl hl.1 rfl (Nat.le_of_ble_eq_true rfl) dX9_must_20 ⟨Nat.le_of_ble_eq_true rfl, Nat.le_of_ble_eq_true rfl⟩ (fun f H locs hw hP hD hS => ?_)
      obtain ⟨hrs, x21, x22, hT, h23⟩ := hw
      exact tV hx hb hr hlk hP hS ⟨trivial, ⟨x21, x22, m_at, m_end, m_token, m_number, m_name, hT, by omega, by omega, by omega⟩⟩ dX9_must_23
    · have kc20 := c_ne c20
      refine lv_aload_n hx hb dX9_must_12 rfl (lv_at hl 0 rfl) ?_
      refine tVV (As := []) (rest := []) (i := 148) ⟨hx, hb, hml, hown, hts⟩ hK hE hP hD hS hA hAB (s_X9_goOn_0 l B0 adK adV D cy ad fr0 c_text m_taped m_size m_faultKind m_faultPlace m_at m_end m_token m_number m_name c_points c_strands c_units c_told c_ruleFrom c_ruleTo c_code c_eWhat c_eSign m_bank m_rb m_codes m_within m_piled m_unitsInRule m_askStrand m_askTied m_thoughtClaim m_thoughtNeed m_thoughtAll c_roundOf m_acts m_undone m_laid m_firstMove m_seens m_time m_waysNow m_fitting f hT (by omega) (by omega) _) (cwV 0 hts gX9_must_X9_goOn rfl rfl rfl (by decide +kernel) ⟨Nat.le_of_ble_eq_true rfl, Nat.le_of_ble_eq_true rfl⟩) (by decide) 9 e16 rfl rfl hl.1 rfl (Nat.le_of_ble_eq_true rfl) dX9_must_13 ⟨Nat.le_of_ble_eq_true rfl, Nat.le_of_ble_eq_true rfl⟩ (fun f H locs hw hP hD hS => ?_)
      obtain ⟨hrs, x24, x25, x26, x27, y28, hT, h29, h30, h31⟩ := hw
      refine lv_goto (tgt := 23) hx hb dX9_must_16 (by decide) ?_
      exact tV hx hb hr hlk hP hS ⟨trivial, ⟨m_faultKind, m_faultPlace, x24, x25, x26, x27, y28, hT, by omega, by omega, by omega⟩⟩ dX9_must_23
  · refine lv_if_ne (tgt := 8) hx hb dX9_must_4 (by decide) (fun c => absurd (by decide) c) (fun _ => ?_)
    exact tV hx hb hr hlk hP hS ⟨trivial, ⟨m_faultKind, m_faultPlace, m_at, m_end, m_token, m_number, m_name, hT, by omega, by omega, by omega⟩⟩ dX9_must_7
set_option maxHeartbeats 4000000 in
set_option maxRecDepth 100000 in
theorem s_X9_numeral_0 (l : Launch) (B0 : Nat) (adK adV : Nat → Nat) (D : va_G) (cy : Nat → ClassId) (ad : Nat → Nat) (fr0 : Nat → va_E) (c_text : Nat → Int32) (m_taped : Int32) (m_size : Int32) (m_faultKind : Int32) (m_faultPlace : Int32) (m_at : Int32) (m_end : Int32) (m_token : Int32) (m_number : Int32) (m_name : Int64) (c_points : Nat → Int32) (c_strands : Nat → Int32) (c_units : Nat → Int32) (c_told : Nat → Int32) (c_ruleFrom : Nat → Int32) (c_ruleTo : Nat → Int32) (c_code : Nat → Int32) (c_eWhat : Nat → Int32) (c_eSign : Nat → Int32) (m_bank : Int32) (m_rb : Int32) (m_codes : Int32) (m_within : Int32) (m_piled : Int32) (m_unitsInRule : Int32) (m_askStrand : Int32) (m_askTied : Int32) (m_thoughtClaim : Int32) (m_thoughtNeed : Int32) (m_thoughtAll : Int32) (c_roundOf : Nat → Int32) (m_acts : Int32) (m_undone : Int32) (m_laid : Int32) (m_firstMove : Int32) (m_seens : Int32) (m_time : Int32) (m_waysNow : Int32) (m_fitting : Int32) (f : Nat → va_E) (hT : TYm ad cy fr0 c_text m_taped m_size m_faultKind m_faultPlace m_at m_end m_token m_number m_name c_points c_strands c_units c_told c_ruleFrom c_ruleTo c_code c_eWhat c_eSign m_bank m_rb m_codes m_within m_piled m_unitsInRule m_askStrand m_askTied m_thoughtClaim m_thoughtNeed m_thoughtAll c_roundOf m_acts m_undone m_laid m_firstMove m_seens m_time m_waysNow m_fitting f) (p1 : Int32) (hp1 : 0 ≤ p1.toInt ∧ p1.toInt ≤ 1) (p2 : Int32) (hp2 : 1 ≤ p2.toInt ∧ p2.toInt ≤ 999) (hph_m_end : 0 ≤ m_end.toInt ∧ m_end.toInt ≤ 1600) (hh0 : ((m_token.toInt = 0 ∧ m_at.toInt = m_size.toInt ∧ m_end.toInt = m_size.toInt) ∨ (1 ≤ m_token.toInt ∧ m_at.toInt < m_end.toInt ∧ m_end.toInt ≤ m_size.toInt))) (sz : Nat) : TtI l yX9_numeral wsX9_numeral 2 44 [.ref (ad 148), .int p1, .int p2] B0 adK adV D cy ad f sz (fun (r : Int32) (g : Nat → va_E) => True ∧ (∃ (m_faultKind' : Int32) (m_faultPlace' : Int32) (m_at' : Int32) (m_end' : Int32) (m_token' : Int32) (m_number' : Int32) (m_name' : Int64), TYm ad cy fr0 c_text m_taped m_size m_faultKind' m_faultPlace' m_at' m_end' m_token' m_number' m_name' c_points c_strands c_units c_told c_ruleFrom c_ruleTo c_code c_eWhat c_eSign m_bank m_rb m_codes m_within m_piled m_unitsInRule m_askStrand m_askTied m_thoughtClaim m_thoughtNeed m_thoughtAll c_roundOf m_acts m_undone m_laid m_firstMove m_seens m_time m_waysNow m_fitting g ∧ (0 ≤ m_end'.toInt ∧ m_end'.toInt ≤ 1600) ∧ ((m_token'.toInt = 0 ∧ m_at'.toInt = m_size.toInt ∧ m_end'.toInt = m_size.toInt) ∨ (1 ≤ m_token'.toInt ∧ m_at'.toInt < m_end'.toInt ∧ m_end'.toInt ≤ m_size.toInt)) ∧ m_at.toInt ≤ m_at'.toInt)) := by
  refine TtI.of (cc := cX9_numeral) (maxL := 4) (ty := .int) (own := RX9) (by decide) rfl (Nat.le_of_ble_eq_true rfl) rfl ?_
  intro p e s m below meth c A ls hx hb hr hml hts hown hlk hK hE hP hD hS hA hAB hl
  have hl : lv_has ls 4 [(0, .ref (ad 148)), (1, .int p1), (2, .int p2)] := hl
  refine st0 (fun H locs hP hS => ?_) hP hS
  have j69 : ∀ (f : Nat → va_E) (H : Heap) (locs : List Loc) (ls : Array Slot) (v69_p_m_faultKind : Int32) (v69_p_m_faultPlace : Int32) (v69_p_m_at : Int32) (v69_p_m_end : Int32) (v69_p_m_token : Int32) (v69_p_m_number : Int32) (v69_p_m_name : Int64), (0 ≤ p1.toInt ∧ p1.toInt ≤ 1) → (1 ≤ p2.toInt ∧ p2.toInt ≤ 999) → (0 ≤ v69_p_m_end.toInt ∧ v69_p_m_end.toInt ≤ 1600) → (((v69_p_m_token.toInt = 0 ∧ v69_p_m_at.toInt = m_size.toInt ∧ v69_p_m_end.toInt = m_size.toInt) ∨ (1 ≤ v69_p_m_token.toInt ∧ v69_p_m_at.toInt < v69_p_m_end.toInt ∧ v69_p_m_end.toInt ≤ m_size.toInt))) → (m_at.toInt ≤ v69_p_m_at.toInt) → (TYm ad cy fr0 c_text m_taped m_size v69_p_m_faultKind v69_p_m_faultPlace v69_p_m_at v69_p_m_end v69_p_m_token v69_p_m_number v69_p_m_name c_points c_strands c_units c_told c_ruleFrom c_ruleTo c_code c_eWhat c_eSign m_bank m_rb m_codes m_within m_piled m_unitsInRule m_askStrand m_askTied m_thoughtClaim m_thoughtNeed m_thoughtAll c_roundOf m_acts m_undone m_laid m_firstMove m_seens m_time m_waysNow m_fitting f) → (va_P D vwCl (wl ad f) H) → (va_D A (wl ad f)) → (va_S A s.heap H locs) → (lv_has ls 4 [(3, .int m_number), (0, .ref (ad 148)), (1, .int p1), (2, .int p2)]) → W p l e (rmO 2 44 0 0) s m ([.ref (ad 148), .int p1, .int p2] : List Value).toArray below meth c H locs 0 0 (MQ below (va_Qi (fun (r : Int32) (g : Nat → va_E) => True ∧ (∃ (m_faultKind' : Int32) (m_faultPlace' : Int32) (m_at' : Int32) (m_end' : Int32) (m_token' : Int32) (m_number' : Int32) (m_name' : Int64), TYm ad cy fr0 c_text m_taped m_size m_faultKind' m_faultPlace' m_at' m_end' m_token' m_number' m_name' c_points c_strands c_units c_told c_ruleFrom c_ruleTo c_code c_eWhat c_eSign m_bank m_rb m_codes m_within m_piled m_unitsInRule m_askStrand m_askTied m_thoughtClaim m_thoughtNeed m_thoughtAll c_roundOf m_acts m_undone m_laid m_firstMove m_seens m_time m_waysNow m_fitting g ∧ (0 ≤ m_end'.toInt ∧ m_end'.toInt ≤ 1600) ∧ ((m_token'.toInt = 0 ∧ m_at'.toInt = m_size.toInt ∧ m_end'.toInt = m_size.toInt) ∨ (1 ≤ m_token'.toInt ∧ m_at'.toInt < m_end'.toInt ∧ m_end'.toInt ≤ m_size.toInt)) ∧ m_at.toInt ≤ m_at'.toInt)) (fun g t => PstT D ad g t) A) ([.ref (ad 148), .int p1, .int p2] : List Value).toArray s 0 0 A) (F0 m 69 ls []) := by
    intro f H locs ls v69_p_m_faultKind v69_p_m_faultPlace v69_p_m_at v69_p_m_end v69_p_m_token v69_p_m_number v69_p_m_name hv69_l1 hv69_l2 hv69_p_m_end hJ69_0 hJ69_1 hT hP hD hS hl
    refine lv_aload_n hx hb dX9_numeral_69 rfl (lv_at hl 1 rfl) ?_
    obtain ⟨e16, h1, h2, h3, h4, h5, h6, h7, h8, h9, h10, h11, h12, h13, h14, h15⟩ := (show okX9 ad m_taped m_size v69_p_m_faultKind v69_p_m_faultPlace v69_p_m_at v69_p_m_end v69_p_m_token v69_p_m_number v69_p_m_name m_bank m_rb m_codes m_within m_piled m_unitsInRule m_askStrand m_askTied m_thoughtClaim m_thoughtNeed m_thoughtAll m_acts m_undone m_laid m_firstMove m_seens m_time m_waysNow m_fitting 148 (f 148) from hT.1 148 (by decide))
    refine tVI (As := []) (rest := []) (i := 148) ⟨hx, hb, hml, hown, hts⟩ hK hE hP hD hS hA hAB (s_X9_isGood_0 l B0 adK adV D cy ad fr0 c_text m_taped m_size v69_p_m_faultKind v69_p_m_faultPlace v69_p_m_at v69_p_m_end v69_p_m_token v69_p_m_number v69_p_m_name c_points c_strands c_units c_told c_ruleFrom c_ruleTo c_code c_eWhat c_eSign m_bank m_rb m_codes m_within m_piled m_unitsInRule m_askStrand m_askTied m_thoughtClaim m_thoughtNeed m_thoughtAll c_roundOf m_acts m_undone m_laid m_firstMove m_seens m_time m_waysNow m_fitting f hT _) (cwV 0 hts gX9_numeral_X9_isGood rfl rfl rfl (by decide +kernel) ⟨Nat.le_of_ble_eq_true rfl, Nat.le_of_ble_eq_true rfl⟩) (by decide) 9 e16 rfl rfl hl.1 rfl (Nat.le_of_ble_eq_true rfl) dX9_numeral_70 ⟨Nat.le_of_ble_eq_true rfl, Nat.le_of_ble_eq_true rfl⟩ (fun r g H locs hw hP hD hS => ?_)
    obtain ⟨hrs, rfl⟩ := hw
    obtain ⟨x17, rfl⟩ : ∃ q, q = r := ⟨_, rfl⟩
    rcases hrs with ⟨rfl, h18⟩ | ⟨rfl, h19⟩
    · refine lv_if_eq (tgt := 80) hx hb dX9_numeral_73 (by decide) (fun c => absurd c (by decide)) (fun _ => ?_)
      refine lv_iload_n hx hb dX9_numeral_76 rfl (lv_at hl 0 rfl) ?_
      refine lv_goto (tgt := 81) hx hb dX9_numeral_77 (by decide) ?_
      exact tI hx hb hr hlk rfl hP hS ⟨trivial, ⟨v69_p_m_faultKind, v69_p_m_faultPlace, v69_p_m_at, v69_p_m_end, v69_p_m_token, v69_p_m_number, v69_p_m_name, hT, by omega, by omega, by omega⟩⟩ dX9_numeral_81
    · refine lv_if_eq (tgt := 80) hx hb dX9_numeral_73 (by decide) (fun _ => ?_) (fun c => absurd (by decide) c)
      refine lv_iload_n hx hb dX9_numeral_80 rfl (lv_at hl 2 rfl) ?_
      exact tI hx hb hr hlk rfl hP hS ⟨trivial, ⟨v69_p_m_faultKind, v69_p_m_faultPlace, v69_p_m_at, v69_p_m_end, v69_p_m_token, v69_p_m_number, v69_p_m_name, hT, by omega, by omega, by omega⟩⟩ dX9_numeral_81
  have j53 : ∀ (f : Nat → va_E) (H : Heap) (locs : List Loc) (ls : Array Slot) (v53_p_m_faultKind : Int32) (v53_p_m_faultPlace : Int32), (0 ≤ p1.toInt ∧ p1.toInt ≤ 1) → (1 ≤ p2.toInt ∧ p2.toInt ≤ 999) → (0 ≤ m_end.toInt ∧ m_end.toInt ≤ 1600) → (TYm ad cy fr0 c_text m_taped m_size v53_p_m_faultKind v53_p_m_faultPlace m_at m_end m_token m_number m_name c_points c_strands c_units c_told c_ruleFrom c_ruleTo c_code c_eWhat c_eSign m_bank m_rb m_codes m_within m_piled m_unitsInRule m_askStrand m_askTied m_thoughtClaim m_thoughtNeed m_thoughtAll c_roundOf m_acts m_undone m_laid m_firstMove m_seens m_time m_waysNow m_fitting f) → (va_P D vwCl (wl ad f) H) → (va_D A (wl ad f)) → (va_S A s.heap H locs) → (lv_has ls 4 [(0, .ref (ad 148)), (1, .int p1), (2, .int p2)]) → W p l e (rmO 2 44 0 0) s m ([.ref (ad 148), .int p1, .int p2] : List Value).toArray below meth c H locs 0 0 (MQ below (va_Qi (fun (r : Int32) (g : Nat → va_E) => True ∧ (∃ (m_faultKind' : Int32) (m_faultPlace' : Int32) (m_at' : Int32) (m_end' : Int32) (m_token' : Int32) (m_number' : Int32) (m_name' : Int64), TYm ad cy fr0 c_text m_taped m_size m_faultKind' m_faultPlace' m_at' m_end' m_token' m_number' m_name' c_points c_strands c_units c_told c_ruleFrom c_ruleTo c_code c_eWhat c_eSign m_bank m_rb m_codes m_within m_piled m_unitsInRule m_askStrand m_askTied m_thoughtClaim m_thoughtNeed m_thoughtAll c_roundOf m_acts m_undone m_laid m_firstMove m_seens m_time m_waysNow m_fitting g ∧ (0 ≤ m_end'.toInt ∧ m_end'.toInt ≤ 1600) ∧ ((m_token'.toInt = 0 ∧ m_at'.toInt = m_size.toInt ∧ m_end'.toInt = m_size.toInt) ∨ (1 ≤ m_token'.toInt ∧ m_at'.toInt < m_end'.toInt ∧ m_end'.toInt ≤ m_size.toInt)) ∧ m_at.toInt ≤ m_at'.toInt)) (fun g t => PstT D ad g t) A) ([.ref (ad 148), .int p1, .int p2] : List Value).toArray s 0 0 A) (F0 m 53 ls []) := by
    intro f H locs ls v53_p_m_faultKind v53_p_m_faultPlace hv53_l1 hv53_l2 hv53_p_m_end hT hP hD hS hl
    refine lv_aload_n hx hb dX9_numeral_53 rfl (lv_at hl 0 rfl) ?_
    obtain ⟨e35, h20, h21, h22, h23, h24, h25, h26, h27, h28, h29, h30, h31, h32, h33, h34⟩ := (show okX9 ad m_taped m_size v53_p_m_faultKind v53_p_m_faultPlace m_at m_end m_token m_number m_name m_bank m_rb m_codes m_within m_piled m_unitsInRule m_askStrand m_askTied m_thoughtClaim m_thoughtNeed m_thoughtAll m_acts m_undone m_laid m_firstMove m_seens m_time m_waysNow m_fitting 148 (f 148) from hT.1 148 (by decide))
    refine va_get (D := D) (cl := vwCl) (ci := 9) (v := .int m_number) (C := RX9) (T := TX9) (N := 64) hx hb hts in_X9_numeral_X9 hown hK hP 148 (wl_at (by decide) e35) rfl 9 (by decide) (hts (.fieldLink RX9 199 "EightReasonsModel" "number" "I") (List.mem_of_getElem? (i := 2) rfl)) (fun _ h9 => h9) rfl dX9_numeral_54 ?_
    refine lv_istore_n (lv' := [(3, .int m_number), (0, .ref (ad 148)), (1, .int p1), (2, .int p2)]) hx hb dX9_numeral_57 rfl hl (by decide) rfl (fun ls hl => ?_)
    refine lv_aload_n hx hb dX9_numeral_58 rfl (lv_at hl 1 rfl) ?_
    refine tVI (As := []) (rest := []) (i := 148) ⟨hx, hb, hml, hown, hts⟩ hK hE hP hD hS hA hAB (s_X9_isGood_0 l B0 adK adV D cy ad fr0 c_text m_taped m_size v53_p_m_faultKind v53_p_m_faultPlace m_at m_end m_token m_number m_name c_points c_strands c_units c_told c_ruleFrom c_ruleTo c_code c_eWhat c_eSign m_bank m_rb m_codes m_within m_piled m_unitsInRule m_askStrand m_askTied m_thoughtClaim m_thoughtNeed m_thoughtAll c_roundOf m_acts m_undone m_laid m_firstMove m_seens m_time m_waysNow m_fitting f hT _) (cwV 0 hts gX9_numeral_X9_isGood rfl rfl rfl (by decide +kernel) ⟨Nat.le_of_ble_eq_true rfl, Nat.le_of_ble_eq_true rfl⟩) (by decide) 9 e35 rfl rfl hl.1 rfl (Nat.le_of_ble_eq_true rfl) dX9_numeral_59 ⟨Nat.le_of_ble_eq_true rfl, Nat.le_of_ble_eq_true rfl⟩ (fun r g H locs hw hP hD hS => ?_)
    obtain ⟨hrs, rfl⟩ := hw
    obtain ⟨x36, rfl⟩ : ∃ q, q = r := ⟨_, rfl⟩
    rcases hrs with ⟨rfl, h37⟩ | ⟨rfl, h38⟩
    · refine lv_if_eq (tgt := 69) hx hb dX9_numeral_62 (by decide) (fun c => absurd c (by decide)) (fun _ => ?_)
      refine lv_aload_n hx hb dX9_numeral_65 rfl (lv_at hl 1 rfl) ?_
      refine tVV (As := []) (rest := []) (i := 148) ⟨hx, hb, hml, hown, hts⟩ hK hE hP hD hS hA hAB (s_X9_goOn_0 l B0 adK adV D cy ad fr0 c_text m_taped m_size v53_p_m_faultKind v53_p_m_faultPlace m_at m_end m_token m_number m_name c_points c_strands c_units c_told c_ruleFrom c_ruleTo c_code c_eWhat c_eSign m_bank m_rb m_codes m_within m_piled m_unitsInRule m_askStrand m_askTied m_thoughtClaim m_thoughtNeed m_thoughtAll c_roundOf m_acts m_undone m_laid m_firstMove m_seens m_time m_waysNow m_fitting f hT (by omega) (by omega) _) (cwV 0 hts gX9_numeral_X9_goOn rfl rfl rfl (by decide +kernel) ⟨Nat.le_of_ble_eq_true rfl, Nat.le_of_ble_eq_true rfl⟩) (by decide) 9 e35 rfl rfl hl.1 rfl (Nat.le_of_ble_eq_true rfl) dX9_numeral_66 ⟨Nat.le_of_ble_eq_true rfl, Nat.le_of_ble_eq_true rfl⟩ (fun f H locs hw hP hD hS => ?_)
      obtain ⟨hrs, x39, x40, x41, x42, y43, hT, h44, h45, h46⟩ := hw
      exact j69 f H locs ls v53_p_m_faultKind v53_p_m_faultPlace x39 x40 x41 x42 y43 (by omega) (by omega) (by omega) (by omega) (by omega) hT hP hD hS (lv_sub hl [0, 1, 2, 3] rfl)
    · refine lv_if_eq (tgt := 69) hx hb dX9_numeral_62 (by decide) (fun _ => ?_) (fun c => absurd (by decide) c)
      exact j69 f H locs ls v53_p_m_faultKind v53_p_m_faultPlace m_at m_end m_token m_number m_name (by omega) (by omega) (by omega) (by omega) (by omega) hT hP hD hS (lv_sub hl [0, 1, 2, 3] rfl)
  have j44 : ∀ (f : Nat → va_E) (H : Heap) (locs : List Loc) (ls : Array Slot) (v44_p_m_faultKind : Int32) (v44_p_m_faultPlace : Int32), (0 ≤ p1.toInt ∧ p1.toInt ≤ 1) → (1 ≤ p2.toInt ∧ p2.toInt ≤ 999) → (0 ≤ v44_p_m_faultKind.toInt ∧ v44_p_m_faultKind.toInt ≤ 0) → (0 ≤ m_end.toInt ∧ m_end.toInt ≤ 1600) → (TYm ad cy fr0 c_text m_taped m_size v44_p_m_faultKind v44_p_m_faultPlace m_at m_end m_token m_number m_name c_points c_strands c_units c_told c_ruleFrom c_ruleTo c_code c_eWhat c_eSign m_bank m_rb m_codes m_within m_piled m_unitsInRule m_askStrand m_askTied m_thoughtClaim m_thoughtNeed m_thoughtAll c_roundOf m_acts m_undone m_laid m_firstMove m_seens m_time m_waysNow m_fitting f) → (va_P D vwCl (wl ad f) H) → (va_D A (wl ad f)) → (va_S A s.heap H locs) → (lv_has ls 4 [(0, .ref (ad 148)), (1, .int p1), (2, .int p2)]) → W p l e (rmO 2 44 0 0) s m ([.ref (ad 148), .int p1, .int p2] : List Value).toArray below meth c H locs 0 0 (MQ below (va_Qi (fun (r : Int32) (g : Nat → va_E) => True ∧ (∃ (m_faultKind' : Int32) (m_faultPlace' : Int32) (m_at' : Int32) (m_end' : Int32) (m_token' : Int32) (m_number' : Int32) (m_name' : Int64), TYm ad cy fr0 c_text m_taped m_size m_faultKind' m_faultPlace' m_at' m_end' m_token' m_number' m_name' c_points c_strands c_units c_told c_ruleFrom c_ruleTo c_code c_eWhat c_eSign m_bank m_rb m_codes m_within m_piled m_unitsInRule m_askStrand m_askTied m_thoughtClaim m_thoughtNeed m_thoughtAll c_roundOf m_acts m_undone m_laid m_firstMove m_seens m_time m_waysNow m_fitting g ∧ (0 ≤ m_end'.toInt ∧ m_end'.toInt ≤ 1600) ∧ ((m_token'.toInt = 0 ∧ m_at'.toInt = m_size.toInt ∧ m_end'.toInt = m_size.toInt) ∨ (1 ≤ m_token'.toInt ∧ m_at'.toInt < m_end'.toInt ∧ m_end'.toInt ≤ m_size.toInt)) ∧ m_at.toInt ≤ m_at'.toInt)) (fun g t => PstT D ad g t) A) ([.ref (ad 148), .int p1, .int p2] : List Value).toArray s 0 0 A) (F0 m 44 ls []) := by
    intro f H locs ls v44_p_m_faultKind v44_p_m_faultPlace hv44_l1 hv44_l2 hv44_p_m_faultKind hv44_p_m_end hT hP hD hS hl
    refine lv_aload_n hx hb dX9_numeral_44 rfl (lv_at hl 0 rfl) ?_
    refine lv_iconst (v := 4) hx hb dX9_numeral_45 (by decide) ?_
    refine lv_aload_n hx hb dX9_numeral_46 rfl (lv_at hl 0 rfl) ?_
    obtain ⟨e62, h47, h48, h49, h50, h51, h52, h53, h54, h55, h56, h57, h58, h59, h60, h61⟩ := (show okX9 ad m_taped m_size v44_p_m_faultKind v44_p_m_faultPlace m_at m_end m_token m_number m_name m_bank m_rb m_codes m_within m_piled m_unitsInRule m_askStrand m_askTied m_thoughtClaim m_thoughtNeed m_thoughtAll m_acts m_undone m_laid m_firstMove m_seens m_time m_waysNow m_fitting 148 (f 148) from hT.1 148 (by decide))
    refine va_get (D := D) (cl := vwCl) (ci := 9) (v := .int m_at) (C := RX9) (T := TX9) (N := 64) hx hb hts in_X9_numeral_X9 hown hK hP 148 (wl_at (by decide) e62) rfl 6 (by decide) (hts (.fieldLink RX9 174 "EightReasonsModel" "at" "I") (List.mem_of_getElem? (i := 3) rfl)) (fun _ h9 => h9) rfl dX9_numeral_47 ?_
    have ttl_4 := tl_4
    refine tVV (As := [.int 4, .int m_at]) (rest := []) (i := 148) ⟨hx, hb, hml, hown, hts⟩ hK hE hP hD hS hA hAB (s_X9_fails_0 l B0 adK adV D cy ad fr0 c_text m_taped m_size v44_p_m_faultKind v44_p_m_faultPlace m_at m_end m_token m_number m_name c_points c_strands c_units c_told c_ruleFrom c_ruleTo c_code c_eWhat c_eSign m_bank m_rb m_codes m_within m_piled m_unitsInRule m_askStrand m_askTied m_thoughtClaim m_thoughtNeed m_thoughtAll c_roundOf m_acts m_undone m_laid m_firstMove m_seens m_time m_waysNow m_fitting f hT (4 : Int32) (by omega) m_at (by omega) _) (cwV 2 hts gX9_numeral_X9_fails rfl rfl rfl (by decide +kernel) ⟨Nat.le_of_ble_eq_true rfl, Nat.le_of_ble_eq_true rfl⟩) (by decide) 9 e62 rfl rfl hl.1 rfl (Nat.le_of_ble_eq_true rfl) dX9_numeral_50 ⟨Nat.le_of_ble_eq_true rfl, Nat.le_of_ble_eq_true rfl⟩ (fun f H locs hw hP hD hS => ?_)
    obtain ⟨hrs, x63, x64, hT, h65⟩ := hw
    exact j53 f H locs ls x63 x64 (by omega) (by omega) (by omega) hT hP hD hS (lv_sub hl [0, 1, 2] rfl)
  have j21 : ∀ (f : Nat → va_E) (H : Heap) (locs : List Loc) (ls : Array Slot) (v21_p_m_faultKind : Int32) (v21_p_m_faultPlace : Int32), (0 ≤ p1.toInt ∧ p1.toInt ≤ 1) → (1 ≤ p2.toInt ∧ p2.toInt ≤ 999) → (0 ≤ m_end.toInt ∧ m_end.toInt ≤ 1600) → (TYm ad cy fr0 c_text m_taped m_size v21_p_m_faultKind v21_p_m_faultPlace m_at m_end m_token m_number m_name c_points c_strands c_units c_told c_ruleFrom c_ruleTo c_code c_eWhat c_eSign m_bank m_rb m_codes m_within m_piled m_unitsInRule m_askStrand m_askTied m_thoughtClaim m_thoughtNeed m_thoughtAll c_roundOf m_acts m_undone m_laid m_firstMove m_seens m_time m_waysNow m_fitting f) → (va_P D vwCl (wl ad f) H) → (va_D A (wl ad f)) → (va_S A s.heap H locs) → (lv_has ls 4 [(0, .ref (ad 148)), (1, .int p1), (2, .int p2)]) → W p l e (rmO 2 44 0 0) s m ([.ref (ad 148), .int p1, .int p2] : List Value).toArray below meth c H locs 0 0 (MQ below (va_Qi (fun (r : Int32) (g : Nat → va_E) => True ∧ (∃ (m_faultKind' : Int32) (m_faultPlace' : Int32) (m_at' : Int32) (m_end' : Int32) (m_token' : Int32) (m_number' : Int32) (m_name' : Int64), TYm ad cy fr0 c_text m_taped m_size m_faultKind' m_faultPlace' m_at' m_end' m_token' m_number' m_name' c_points c_strands c_units c_told c_ruleFrom c_ruleTo c_code c_eWhat c_eSign m_bank m_rb m_codes m_within m_piled m_unitsInRule m_askStrand m_askTied m_thoughtClaim m_thoughtNeed m_thoughtAll c_roundOf m_acts m_undone m_laid m_firstMove m_seens m_time m_waysNow m_fitting g ∧ (0 ≤ m_end'.toInt ∧ m_end'.toInt ≤ 1600) ∧ ((m_token'.toInt = 0 ∧ m_at'.toInt = m_size.toInt ∧ m_end'.toInt = m_size.toInt) ∨ (1 ≤ m_token'.toInt ∧ m_at'.toInt < m_end'.toInt ∧ m_end'.toInt ≤ m_size.toInt)) ∧ m_at.toInt ≤ m_at'.toInt)) (fun g t => PstT D ad g t) A) ([.ref (ad 148), .int p1, .int p2] : List Value).toArray s 0 0 A) (F0 m 21 ls []) := by
    intro f H locs ls v21_p_m_faultKind v21_p_m_faultPlace hv21_l1 hv21_l2 hv21_p_m_end hT hP hD hS hl
    refine lv_aload_n hx hb dX9_numeral_21 rfl (lv_at hl 0 rfl) ?_
    obtain ⟨e81, h66, h67, h68, h69, h70, h71, h72, h73, h74, h75, h76, h77, h78, h79, h80⟩ := (show okX9 ad m_taped m_size v21_p_m_faultKind v21_p_m_faultPlace m_at m_end m_token m_number m_name m_bank m_rb m_codes m_within m_piled m_unitsInRule m_askStrand m_askTied m_thoughtClaim m_thoughtNeed m_thoughtAll m_acts m_undone m_laid m_firstMove m_seens m_time m_waysNow m_fitting 148 (f 148) from hT.1 148 (by decide))
    refine tVI (As := []) (rest := []) (i := 148) ⟨hx, hb, hml, hown, hts⟩ hK hE hP hD hS hA hAB (s_X9_isGood_0 l B0 adK adV D cy ad fr0 c_text m_taped m_size v21_p_m_faultKind v21_p_m_faultPlace m_at m_end m_token m_number m_name c_points c_strands c_units c_told c_ruleFrom c_ruleTo c_code c_eWhat c_eSign m_bank m_rb m_codes m_within m_piled m_unitsInRule m_askStrand m_askTied m_thoughtClaim m_thoughtNeed m_thoughtAll c_roundOf m_acts m_undone m_laid m_firstMove m_seens m_time m_waysNow m_fitting f hT _) (cwV 0 hts gX9_numeral_X9_isGood rfl rfl rfl (by decide +kernel) ⟨Nat.le_of_ble_eq_true rfl, Nat.le_of_ble_eq_true rfl⟩) (by decide) 9 e81 rfl rfl hl.1 rfl (Nat.le_of_ble_eq_true rfl) dX9_numeral_22 ⟨Nat.le_of_ble_eq_true rfl, Nat.le_of_ble_eq_true rfl⟩ (fun r g H locs hw hP hD hS => ?_)
    obtain ⟨hrs, rfl⟩ := hw
    obtain ⟨x82, rfl⟩ : ∃ q, q = r := ⟨_, rfl⟩
    rcases hrs with ⟨rfl, h83⟩ | ⟨rfl, h84⟩
    · refine lv_if_eq (tgt := 53) hx hb dX9_numeral_25 (by decide) (fun c => absurd c (by decide)) (fun _ => ?_)
      refine lv_aload_n hx hb dX9_numeral_28 rfl (lv_at hl 0 rfl) ?_
      refine va_get (D := D) (cl := vwCl) (ci := 9) (v := .int m_number) (C := RX9) (T := TX9) (N := 64) hx hb hts in_X9_numeral_X9 hown hK hP 148 (wl_at (by decide) e81) rfl 9 (by decide) (hts (.fieldLink RX9 199 "EightReasonsModel" "number" "I") (List.mem_of_getElem? (i := 2) rfl)) (fun _ h9 => h9) rfl dX9_numeral_29 ?_
      refine lv_iload_n hx hb dX9_numeral_32 rfl (lv_at hl 1 rfl) ?_
      refine lv_icmp_lt (tgt := 44) hx hb dX9_numeral_33 (by decide) (fun c85 => ?_) (fun c85 => ?_)
      · have kc85 := c_lt c85
        exact j44 f H locs ls v21_p_m_faultKind v21_p_m_faultPlace (by omega) (by omega) (by omega) (by omega) hT hP hD hS (lv_sub hl [0, 1, 2] rfl)
      · have kc85 := c_nlt c85
        refine lv_aload_n hx hb dX9_numeral_36 rfl (lv_at hl 0 rfl) ?_
        refine va_get (D := D) (cl := vwCl) (ci := 9) (v := .int m_number) (C := RX9) (T := TX9) (N := 64) hx hb hts in_X9_numeral_X9 hown hK hP 148 (wl_at (by decide) e81) rfl 9 (by decide) (hts (.fieldLink RX9 199 "EightReasonsModel" "number" "I") (List.mem_of_getElem? (i := 2) rfl)) (fun _ h9 => h9) rfl dX9_numeral_37 ?_
        refine lv_iload_n hx hb dX9_numeral_40 rfl (lv_at hl 2 rfl) ?_
        refine lv_icmp_le (tgt := 53) hx hb dX9_numeral_41 (by decide) (fun c86 => ?_) (fun c86 => ?_)
        · have kc86 := c_le c86
          exact j53 f H locs ls v21_p_m_faultKind v21_p_m_faultPlace (by omega) (by omega) (by omega) hT hP hD hS (lv_sub hl [0, 1, 2] rfl)
        · have kc86 := c_nle c86
          exact j44 f H locs ls v21_p_m_faultKind v21_p_m_faultPlace (by omega) (by omega) (by omega) (by omega) hT hP hD hS (lv_sub hl [0, 1, 2] rfl)
    · refine lv_if_eq (tgt := 53) hx hb dX9_numeral_25 (by decide) (fun _ => ?_) (fun c => absurd (by decide) c)
      exact j53 f H locs ls v21_p_m_faultKind v21_p_m_faultPlace (by omega) (by omega) (by omega) hT hP hD hS (lv_sub hl [0, 1, 2] rfl)
  refine lv_aload_n hx hb dX9_numeral_0 rfl (lv_at hl 0 rfl) ?_
  obtain ⟨e102, h87, h88, h89, h90, h91, h92, h93, h94, h95, h96, h97, h98, h99, h100, h101⟩ := (show okX9 ad m_taped m_size m_faultKind m_faultPlace m_at m_end m_token m_number m_name m_bank m_rb m_codes m_within m_piled m_unitsInRule m_askStrand m_askTied m_thoughtClaim m_thoughtNeed m_thoughtAll m_acts m_undone m_laid m_firstMove m_seens m_time m_waysNow m_fitting 148 (f 148) from hT.1 148 (by decide))
  refine tVI (As := []) (rest := []) (i := 148) ⟨hx, hb, hml, hown, hts⟩ hK hE hP hD hS hA hAB (s_X9_isGood_0 l B0 adK adV D cy ad fr0 c_text m_taped m_size m_faultKind m_faultPlace m_at m_end m_token m_number m_name c_points c_strands c_units c_told c_ruleFrom c_ruleTo c_code c_eWhat c_eSign m_bank m_rb m_codes m_within m_piled m_unitsInRule m_askStrand m_askTied m_thoughtClaim m_thoughtNeed m_thoughtAll c_roundOf m_acts m_undone m_laid m_firstMove m_seens m_time m_waysNow m_fitting f hT _) (cwV 0 hts gX9_numeral_X9_isGood rfl rfl rfl (by decide +kernel) ⟨Nat.le_of_ble_eq_true rfl, Nat.le_of_ble_eq_true rfl⟩) (by decide) 9 e102 rfl rfl hl.1 rfl (Nat.le_of_ble_eq_true rfl) dX9_numeral_1 ⟨Nat.le_of_ble_eq_true rfl, Nat.le_of_ble_eq_true rfl⟩ (fun r g H locs hw hP hD hS => ?_)
  obtain ⟨hrs, rfl⟩ := hw
  obtain ⟨x103, rfl⟩ : ∃ q, q = r := ⟨_, rfl⟩
  rcases hrs with ⟨rfl, h104⟩ | ⟨rfl, h105⟩
  · refine lv_if_ne (tgt := 9) hx hb dX9_numeral_4 (by decide) (fun _ => ?_) (fun c => absurd c (by decide))
    refine lv_aload_n hx hb dX9_numeral_9 rfl (lv_at hl 0 rfl) ?_
    refine va_get (D := D) (cl := vwCl) (ci := 9) (v := .int m_token) (C := RX9) (T := TX9) (N := 64) hx hb hts in_X9_numeral_X9 hown hK hP 148 (wl_at (by decide) e102) rfl 8 (by decide) (hts (.fieldLink RX9 181 "EightReasonsModel" "token" "I") (List.mem_of_getElem? (i := 1) rfl)) (fun _ h9 => h9) rfl dX9_numeral_10 ?_
    refine lv_iconst (v := 4) hx hb dX9_numeral_13 (by decide) ?_
    have ttl_4 := tl_4
    refine lv_icmp_eq (tgt := 21) hx hb dX9_numeral_14 (by decide) (fun c106 => ?_) (fun c106 => ?_)
    · have kc106 := c_eq c106
      exact j21 f H locs ls m_faultKind m_faultPlace (by omega) (by omega) (by omega) hT hP hD hS (lv_sub hl [0, 1, 2] rfl)
    · have kc106 := c_ne c106
      refine lv_aload_n hx hb dX9_numeral_17 rfl (lv_at hl 0 rfl) ?_
      refine tVV (As := []) (rest := []) (i := 148) ⟨hx, hb, hml, hown, hts⟩ hK hE hP hD hS hA hAB (s_X9_misplaced_0 l B0 adK adV D cy ad fr0 c_text m_taped m_size m_faultKind m_faultPlace m_at m_end m_token m_number m_name c_points c_strands c_units c_told c_ruleFrom c_ruleTo c_code c_eWhat c_eSign m_bank m_rb m_codes m_within m_piled m_unitsInRule m_askStrand m_askTied m_thoughtClaim m_thoughtNeed m_thoughtAll c_roundOf m_acts m_undone m_laid m_firstMove m_seens m_time m_waysNow m_fitting f hT _) (cwV 0 hts gX9_numeral_X9_misplaced rfl rfl rfl (by decide +kernel) ⟨Nat.le_of_ble_eq_true rfl, Nat.le_of_ble_eq_true rfl⟩) (by decide) 9 e102 rfl rfl hl.1 rfl (Nat.le_of_ble_eq_true rfl) dX9_numeral_18 ⟨Nat.le_of_ble_eq_true rfl, Nat.le_of_ble_eq_true rfl⟩ (fun f H locs hw hP hD hS => ?_)
      obtain ⟨hrs, x107, x108, hT, h109⟩ := hw
      exact j21 f H locs ls x107 x108 (by omega) (by omega) (by omega) hT hP hD hS (lv_sub hl [0, 1, 2] rfl)
  · refine lv_if_ne (tgt := 9) hx hb dX9_numeral_4 (by decide) (fun c => absurd (by decide) c) (fun _ => ?_)
    refine lv_iload_n hx hb dX9_numeral_7 rfl (lv_at hl 1 rfl) ?_
    exact tI hx hb hr hlk rfl hP hS ⟨trivial, ⟨m_faultKind, m_faultPlace, m_at, m_end, m_token, m_number, m_name, hT, by omega, by omega, by omega⟩⟩ dX9_numeral_8
set_option maxHeartbeats 4000000 in
set_option maxRecDepth 100000 in
theorem s_X9_after_0 (l : Launch) (B0 : Nat) (adK adV : Nat → Nat) (D : va_G) (cy : Nat → ClassId) (ad : Nat → Nat) (fr0 : Nat → va_E) (c_text : Nat → Int32) (m_taped : Int32) (m_size : Int32) (m_faultKind : Int32) (m_faultPlace : Int32) (m_at : Int32) (m_end : Int32) (m_token : Int32) (m_number : Int32) (m_name : Int64) (c_points : Nat → Int32) (c_strands : Nat → Int32) (c_units : Nat → Int32) (c_told : Nat → Int32) (c_ruleFrom : Nat → Int32) (c_ruleTo : Nat → Int32) (c_code : Nat → Int32) (c_eWhat : Nat → Int32) (c_eSign : Nat → Int32) (m_bank : Int32) (m_rb : Int32) (m_codes : Int32) (m_within : Int32) (m_piled : Int32) (m_unitsInRule : Int32) (m_askStrand : Int32) (m_askTied : Int32) (m_thoughtClaim : Int32) (m_thoughtNeed : Int32) (m_thoughtAll : Int32) (c_roundOf : Nat → Int32) (m_acts : Int32) (m_undone : Int32) (m_laid : Int32) (m_firstMove : Int32) (m_seens : Int32) (m_time : Int32) (m_waysNow : Int32) (m_fitting : Int32) (f : Nat → va_E) (hT : TYm ad cy fr0 c_text m_taped m_size m_faultKind m_faultPlace m_at m_end m_token m_number m_name c_points c_strands c_units c_told c_ruleFrom c_ruleTo c_code c_eWhat c_eSign m_bank m_rb m_codes m_within m_piled m_unitsInRule m_askStrand m_askTied m_thoughtClaim m_thoughtNeed m_thoughtAll c_roundOf m_acts m_undone m_laid m_firstMove m_seens m_time m_waysNow m_fitting f) (p1 : Int64) (p2 : Int32) (hp2 : 1 ≤ p2.toInt ∧ p2.toInt ≤ 1) (p3 : Int32) (hp3 : 1 ≤ p3.toInt ∧ p3.toInt ≤ 99) (hph_m_end : 0 ≤ m_end.toInt ∧ m_end.toInt ≤ 1600) (hh0 : ((m_token.toInt = 0 ∧ m_at.toInt = m_size.toInt ∧ m_end.toInt = m_size.toInt) ∨ (1 ≤ m_token.toInt ∧ m_at.toInt < m_end.toInt ∧ m_end.toInt ≤ m_size.toInt))) (sz : Nat) : TtI l yX9_after wsX9_after 3 67 [.ref (ad 148), .long p1, .int p2, .int p3] B0 adK adV D cy ad f sz (fun (r : Int32) (g : Nat → va_E) => True ∧ (∃ (m_faultKind' : Int32) (m_faultPlace' : Int32) (m_at' : Int32) (m_end' : Int32) (m_token' : Int32) (m_number' : Int32) (m_name' : Int64), TYm ad cy fr0 c_text m_taped m_size m_faultKind' m_faultPlace' m_at' m_end' m_token' m_number' m_name' c_points c_strands c_units c_told c_ruleFrom c_ruleTo c_code c_eWhat c_eSign m_bank m_rb m_codes m_within m_piled m_unitsInRule m_askStrand m_askTied m_thoughtClaim m_thoughtNeed m_thoughtAll c_roundOf m_acts m_undone m_laid m_firstMove m_seens m_time m_waysNow m_fitting g ∧ (0 ≤ m_end'.toInt ∧ m_end'.toInt ≤ 1600) ∧ ((m_token'.toInt = 0 ∧ m_at'.toInt = m_size.toInt ∧ m_end'.toInt = m_size.toInt) ∨ (1 ≤ m_token'.toInt ∧ m_at'.toInt < m_end'.toInt ∧ m_end'.toInt ≤ m_size.toInt)) ∧ m_at.toInt ≤ m_at'.toInt)) := by
  refine TtI.of (cc := cX9_after) (maxL := 5) (ty := .int) (own := RX9) (by decide) rfl (Nat.le_of_ble_eq_true rfl) rfl ?_
  intro p e s m below meth c A ls hx hb hr hml hts hown hlk hK hE hP hD hS hA hAB hl
  have hl : lv_has ls 5 [(0, .ref (ad 148)), (1, .long p1), (3, .int p2), (4, .int p3)] := hl
  refine st0 (fun H locs hP hS => ?_) hP hS
  refine lv_aload_n hx hb dX9_after_0 rfl (lv_at hl 0 rfl) ?_
  refine lv_aload_n hx hb dX9_after_1 rfl (lv_at hl 0 rfl) ?_
  refine lv_lload_n hx hb dX9_after_2 rfl (lv_at hl 1 rfl) ?_
  obtain ⟨e16, h1, h2, h3, h4, h5, h6, h7, h8, h9, h10, h11, h12, h13, h14, h15⟩ := (show okX9 ad m_taped m_size m_faultKind m_faultPlace m_at m_end m_token m_number m_name m_bank m_rb m_codes m_within m_piled m_unitsInRule m_askStrand m_askTied m_thoughtClaim m_thoughtNeed m_thoughtAll m_acts m_undone m_laid m_firstMove m_seens m_time m_waysNow m_fitting 148 (f 148) from hT.1 148 (by decide))
  refine tVI (As := [.long p1]) (rest := [.ref (ad 148)]) (i := 148) ⟨hx, hb, hml, hown, hts⟩ hK hE hP hD hS hA hAB (s_X9_isWord_0 l B0 adK adV D cy ad fr0 c_text m_taped m_size m_faultKind m_faultPlace m_at m_end m_token m_number m_name c_points c_strands c_units c_told c_ruleFrom c_ruleTo c_code c_eWhat c_eSign m_bank m_rb m_codes m_within m_piled m_unitsInRule m_askStrand m_askTied m_thoughtClaim m_thoughtNeed m_thoughtAll c_roundOf m_acts m_undone m_laid m_firstMove m_seens m_time m_waysNow m_fitting f hT p1 _) (cwV 1 hts gX9_after_X9_isWord rfl rfl rfl (by decide +kernel) ⟨Nat.le_of_ble_eq_true rfl, Nat.le_of_ble_eq_true rfl⟩) (by decide) 9 e16 rfl rfl hl.1 rfl (Nat.le_of_ble_eq_true rfl) dX9_after_3 ⟨Nat.le_of_ble_eq_true rfl, Nat.le_of_ble_eq_true rfl⟩ (fun r g H locs hw hP hD hS => ?_)
  obtain ⟨hrs, rfl⟩ := hw
  obtain ⟨x17, rfl⟩ : ∃ q, q = r := ⟨_, rfl⟩
  rcases hrs with ⟨rfl, h18, h19⟩ | ⟨rfl, h20⟩
  · have ttl_1 := tl_1
    refine tVV (As := [.int 1]) (rest := []) (i := 148) ⟨hx, hb, hml, hown, hts⟩ hK hE hP hD hS hA hAB (s_X9_must_0 l B0 adK adV D cy ad fr0 c_text m_taped m_size m_faultKind m_faultPlace m_at m_end m_token m_number m_name c_points c_strands c_units c_told c_ruleFrom c_ruleTo c_code c_eWhat c_eSign m_bank m_rb m_codes m_within m_piled m_unitsInRule m_askStrand m_askTied m_thoughtClaim m_thoughtNeed m_thoughtAll c_roundOf m_acts m_undone m_laid m_firstMove m_seens m_time m_waysNow m_fitting f hT (1 : Int32) (by omega) (by omega) (by omega) _) (cwV 1 hts gX9_after_X9_must rfl rfl rfl (by decide +kernel) ⟨Nat.le_of_ble_eq_true rfl, Nat.le_of_ble_eq_true rfl⟩) (by decide) 9 e16 rfl rfl hl.1 rfl (Nat.le_of_ble_eq_true rfl) dX9_after_6 ⟨Nat.le_of_ble_eq_true rfl, Nat.le_of_ble_eq_true rfl⟩ (fun f H locs hw hP hD hS => ?_)
    obtain ⟨hrs, x21, x22, x23, x24, x25, x26, y27, hT, h28, h29, h30⟩ := hw
    refine lv_aload_n hx hb dX9_after_9 rfl (lv_at hl 0 rfl) ?_
    refine lv_iload_n hx hb dX9_after_10 rfl (lv_at hl 2 rfl) ?_
    refine lv_iload hx hb dX9_after_11 (lv_at hl 3 rfl) ?_
    obtain ⟨e46, h31, h32, h33, h34, h35, h36, h37, h38, h39, h40, h41, h42, h43, h44, h45⟩ := (show okX9 ad m_taped m_size x21 x22 x23 x24 x25 x26 y27 m_bank m_rb m_codes m_within m_piled m_unitsInRule m_askStrand m_askTied m_thoughtClaim m_thoughtNeed m_thoughtAll m_acts m_undone m_laid m_firstMove m_seens m_time m_waysNow m_fitting 148 (f 148) from hT.1 148 (by decide))
    refine tVI (As := [.int p2, .int p3]) (rest := []) (i := 148) ⟨hx, hb, hml, hown, hts⟩ hK hE hP hD hS hA hAB (s_X9_numeral_0 l B0 adK adV D cy ad fr0 c_text m_taped m_size x21 x22 x23 x24 x25 x26 y27 c_points c_strands c_units c_told c_ruleFrom c_ruleTo c_code c_eWhat c_eSign m_bank m_rb m_codes m_within m_piled m_unitsInRule m_askStrand m_askTied m_thoughtClaim m_thoughtNeed m_thoughtAll c_roundOf m_acts m_undone m_laid m_firstMove m_seens m_time m_waysNow m_fitting f hT p2 (by omega) p3 (by omega) (by omega) (by omega) _) (cwV 2 hts gX9_after_X9_numeral rfl rfl rfl (by decide +kernel) ⟨Nat.le_of_ble_eq_true rfl, Nat.le_of_ble_eq_true rfl⟩) (by decide) 9 e46 rfl rfl hl.1 rfl (Nat.le_of_ble_eq_true rfl) dX9_after_13 ⟨Nat.le_of_ble_eq_true rfl, Nat.le_of_ble_eq_true rfl⟩ (fun r f H locs hw hP hD hS => ?_)
    obtain ⟨hrs, x47, x48, x49, x50, x51, x52, y53, hT, h54, h55, h56⟩ := hw
    obtain ⟨x57, rfl⟩ : ∃ q, q = r := ⟨_, rfl⟩
    have h58 := hrs
    exact tI hx hb hr hlk rfl hP hS ⟨trivial, ⟨x47, x48, x49, x50, x51, x52, y53, hT, by omega, by omega, by omega⟩⟩ dX9_after_16
  · have ttl_0 := tl_0
    refine tVV (As := [.int 0]) (rest := []) (i := 148) ⟨hx, hb, hml, hown, hts⟩ hK hE hP hD hS hA hAB (s_X9_must_0 l B0 adK adV D cy ad fr0 c_text m_taped m_size m_faultKind m_faultPlace m_at m_end m_token m_number m_name c_points c_strands c_units c_told c_ruleFrom c_ruleTo c_code c_eWhat c_eSign m_bank m_rb m_codes m_within m_piled m_unitsInRule m_askStrand m_askTied m_thoughtClaim m_thoughtNeed m_thoughtAll c_roundOf m_acts m_undone m_laid m_firstMove m_seens m_time m_waysNow m_fitting f hT (0 : Int32) (by omega) (by omega) (by omega) _) (cwV 1 hts gX9_after_X9_must rfl rfl rfl (by decide +kernel) ⟨Nat.le_of_ble_eq_true rfl, Nat.le_of_ble_eq_true rfl⟩) (by decide) 9 e16 rfl rfl hl.1 rfl (Nat.le_of_ble_eq_true rfl) dX9_after_6 ⟨Nat.le_of_ble_eq_true rfl, Nat.le_of_ble_eq_true rfl⟩ (fun f H locs hw hP hD hS => ?_)
    obtain ⟨hrs, x59, x60, x61, x62, x63, x64, y65, hT, h66, h67, h68⟩ := hw
    refine lv_aload_n hx hb dX9_after_9 rfl (lv_at hl 0 rfl) ?_
    refine lv_iload_n hx hb dX9_after_10 rfl (lv_at hl 2 rfl) ?_
    refine lv_iload hx hb dX9_after_11 (lv_at hl 3 rfl) ?_
    obtain ⟨e84, h69, h70, h71, h72, h73, h74, h75, h76, h77, h78, h79, h80, h81, h82, h83⟩ := (show okX9 ad m_taped m_size x59 x60 x61 x62 x63 x64 y65 m_bank m_rb m_codes m_within m_piled m_unitsInRule m_askStrand m_askTied m_thoughtClaim m_thoughtNeed m_thoughtAll m_acts m_undone m_laid m_firstMove m_seens m_time m_waysNow m_fitting 148 (f 148) from hT.1 148 (by decide))
    refine tVI (As := [.int p2, .int p3]) (rest := []) (i := 148) ⟨hx, hb, hml, hown, hts⟩ hK hE hP hD hS hA hAB (s_X9_numeral_0 l B0 adK adV D cy ad fr0 c_text m_taped m_size x59 x60 x61 x62 x63 x64 y65 c_points c_strands c_units c_told c_ruleFrom c_ruleTo c_code c_eWhat c_eSign m_bank m_rb m_codes m_within m_piled m_unitsInRule m_askStrand m_askTied m_thoughtClaim m_thoughtNeed m_thoughtAll c_roundOf m_acts m_undone m_laid m_firstMove m_seens m_time m_waysNow m_fitting f hT p2 (by omega) p3 (by omega) (by omega) (by omega) _) (cwV 2 hts gX9_after_X9_numeral rfl rfl rfl (by decide +kernel) ⟨Nat.le_of_ble_eq_true rfl, Nat.le_of_ble_eq_true rfl⟩) (by decide) 9 e84 rfl rfl hl.1 rfl (Nat.le_of_ble_eq_true rfl) dX9_after_13 ⟨Nat.le_of_ble_eq_true rfl, Nat.le_of_ble_eq_true rfl⟩ (fun r f H locs hw hP hD hS => ?_)
    obtain ⟨hrs, x85, x86, x87, x88, x89, x90, y91, hT, h92, h93, h94⟩ := hw
    obtain ⟨x95, rfl⟩ : ∃ q, q = r := ⟨_, rfl⟩
    have h96 := hrs
    exact tI hx hb hr hlk rfl hP hS ⟨trivial, ⟨x85, x86, x87, x88, x89, x90, y91, hT, by omega, by omega, by omega⟩⟩ dX9_after_16
set_option maxHeartbeats 4000000 in
set_option maxRecDepth 100000 in
theorem s_X9_here_0 (l : Launch) (B0 : Nat) (adK adV : Nat → Nat) (D : va_G) (cy : Nat → ClassId) (ad : Nat → Nat) (fr0 : Nat → va_E) (c_text : Nat → Int32) (m_taped : Int32) (m_size : Int32) (m_faultKind : Int32) (m_faultPlace : Int32) (m_at : Int32) (m_end : Int32) (m_token : Int32) (m_number : Int32) (m_name : Int64) (c_points : Nat → Int32) (c_strands : Nat → Int32) (c_units : Nat → Int32) (c_told : Nat → Int32) (c_ruleFrom : Nat → Int32) (c_ruleTo : Nat → Int32) (c_code : Nat → Int32) (c_eWhat : Nat → Int32) (c_eSign : Nat → Int32) (m_bank : Int32) (m_rb : Int32) (m_codes : Int32) (m_within : Int32) (m_piled : Int32) (m_unitsInRule : Int32) (m_askStrand : Int32) (m_askTied : Int32) (m_thoughtClaim : Int32) (m_thoughtNeed : Int32) (m_thoughtAll : Int32) (c_roundOf : Nat → Int32) (m_acts : Int32) (m_undone : Int32) (m_laid : Int32) (m_firstMove : Int32) (m_seens : Int32) (m_time : Int32) (m_waysNow : Int32) (m_fitting : Int32) (f : Nat → va_E) (hT : TYm ad cy fr0 c_text m_taped m_size m_faultKind m_faultPlace m_at m_end m_token m_number m_name c_points c_strands c_units c_told c_ruleFrom c_ruleTo c_code c_eWhat c_eSign m_bank m_rb m_codes m_within m_piled m_unitsInRule m_askStrand m_askTied m_thoughtClaim m_thoughtNeed m_thoughtAll c_roundOf m_acts m_undone m_laid m_firstMove m_seens m_time m_waysNow m_fitting f) (sz : Nat) : TtI l yX9_here wsX9_here 0 0 [.ref (ad 148)] B0 adK adV D cy ad f sz (fun (r : Int32) (g : Nat → va_E) => (-1 ≤ r.toInt ∧ r.toInt ≤ 9) ∧ (f = g)) := by
  refine TtI.of (cc := cX9_here) (maxL := 2) (ty := .int) (own := RX9) (by decide) rfl (Nat.le_of_ble_eq_true rfl) rfl ?_
  intro p e s m below meth c A ls hx hb hr hml hts hown hlk hK hE hP hD hS hA hAB hl
  have hl : lv_has ls 2 [(0, .ref (ad 148))] := hl
  refine st0 (fun H locs hP hS => ?_) hP hS
  have j2 : ∀ (N : Nat) (H : Heap) (locs : List Loc) (ls : Array Slot) (v2_l1 : Int32), (11 - v2_l1.toInt ≤ (N : Int)) → (0 ≤ v2_l1.toInt ∧ v2_l1.toInt ≤ 10) → (va_P D vwCl (wl ad f) H) → (va_D A (wl ad f)) → (va_S A s.heap H locs) → (lv_has ls 2 [(1, .int v2_l1), (0, .ref (ad 148))]) → W p l e (rmO 0 0 0 0) s m ([.ref (ad 148)] : List Value).toArray below meth c H locs 0 0 (MQ below (va_Qi (fun (r : Int32) (g : Nat → va_E) => (-1 ≤ r.toInt ∧ r.toInt ≤ 9) ∧ (f = g)) (fun g t => PstT D ad g t) A) ([.ref (ad 148)] : List Value).toArray s 0 0 A) (F0 m 2 ls []) := by
    intro N
    induction N with
    | zero => intro H locs ls v2_l1 hN hv2_l1 hP hD hS hl; exact absurd hN (by omega)
    | succ N ih2 =>
      intro H locs ls v2_l1 hN hv2_l1 hP hD hS hl
      have j47 : ∀ (H : Heap) (locs : List Loc) (ls : Array Slot), (0 ≤ v2_l1.toInt ∧ v2_l1.toInt ≤ 9) → (va_P D vwCl (wl ad f) H) → (va_D A (wl ad f)) → (va_S A s.heap H locs) → (lv_has ls 2 [(1, .int v2_l1), (0, .ref (ad 148))]) → W p l e (rmO 0 0 0 0) s m ([.ref (ad 148)] : List Value).toArray below meth c H locs 0 0 (MQ below (va_Qi (fun (r : Int32) (g : Nat → va_E) => (-1 ≤ r.toInt ∧ r.toInt ≤ 9) ∧ (f = g)) (fun g t => PstT D ad g t) A) ([.ref (ad 148)] : List Value).toArray s 0 0 A) (F0 m 47 ls []) := by
        intro H locs ls hv47_l1 hP hD hS hl
        obtain ⟨x1, ex1⟩ : ∃ q : Int32, q = v2_l1 + Int32.ofInt (1) := ⟨_, rfl⟩
        refine lv_iinc (v := x1) (lv' := [(1, .int x1), (0, .ref (ad 148))]) hx hb dX9_here_47 hl (k := 0) rfl ex1.symm (by decide) rfl (fun ls hl => ?_)
        have hx1 := r_inc ex1 (by decide) (by omega) (by omega)
        refine lv_goto (tgt := 2) hx hb dX9_here_50 (by decide) ?_
        exact ih2 H locs ls x1 (by omega) (by omega) hP hD hS (lv_sub hl [0, 1] rfl)
      refine lv_iload_n hx hb dX9_here_2 rfl (lv_at hl 0 rfl) ?_
      refine lv_aload_n hx hb dX9_here_3 rfl (lv_at hl 1 rfl) ?_
      obtain ⟨e17, h2, h3, h4, h5, h6, h7, h8, h9, h10, h11, h12, h13, h14, h15, h16⟩ := (show okX9 ad m_taped m_size m_faultKind m_faultPlace m_at m_end m_token m_number m_name m_bank m_rb m_codes m_within m_piled m_unitsInRule m_askStrand m_askTied m_thoughtClaim m_thoughtNeed m_thoughtAll m_acts m_undone m_laid m_firstMove m_seens m_time m_waysNow m_fitting 148 (f 148) from hT.1 148 (by decide))
      refine va_get (D := D) (cl := vwCl) (ci := 9) (v := .ref (ad 151)) (C := RX9) (T := TX9) (N := 64) hx hb hts in_X9_here_X9 hown hK hP 148 (wl_at (by decide) e17) rfl 11 (by decide) (hts (.fieldLink RX9 20 "EightReasonsModel" "points" "[I") (List.mem_of_getElem? (i := 1) rfl)) (fun _ h9 => h9) rfl dX9_here_4 ?_
      refine lv_aload_n hx hb dX9_here_7 rfl (lv_at hl 1 rfl) ?_
      refine va_get (D := D) (cl := vwCl) (ci := 9) (v := .int m_rb) (C := RX9) (T := TX9) (N := 64) hx hb hts in_X9_here_X9 hown hK hP 148 (wl_at (by decide) e17) rfl 30 (by decide) (hts (.fieldLink RX9 230 "EightReasonsModel" "rb" "I") (List.mem_of_getElem? (i := 2) rfl)) (fun _ h9 => h9) rfl dX9_here_8 ?_
      obtain ⟨e18, h19⟩ := (show okIpr cy 2 (0) (10) 1 0 c_points (f 151) from hT.1 151 (by decide))
      refine va_iald hx hb hK hP 151 0 (wl_at (by decide) e18) rfl (vp_in_iff.mpr ⟨by omega, by omega⟩) dX9_here_11 ?_
      refine lv_topi (fun x20 ex20 => ?_)
      have hx20 := r_el (h19 _ (Nat.mod_one _)) ex20
      have kx20 := congrArg Int32.toInt ex20
      refine lv_icmp_ge (tgt := 53) hx hb dX9_here_12 (by decide) (fun c21 => ?_) (fun c21 => ?_)
      · have kc21 := c_le c21
        refine lv_iconst (v := (-1)) hx hb dX9_here_53 (by decide) ?_
        have ttl_m1 := tl_m1
        exact tI hx hb hr hlk rfl hP hS ⟨(by omega), rfl⟩ dX9_here_54
      · have kc21 := c_nle c21
        refine lv_aload_n hx hb dX9_here_15 rfl (lv_at hl 1 rfl) ?_
        refine va_get (D := D) (cl := vwCl) (ci := 9) (v := .int m_token) (C := RX9) (T := TX9) (N := 64) hx hb hts in_X9_here_X9 hown hK hP 148 (wl_at (by decide) e17) rfl 8 (by decide) (hts (.fieldLink RX9 181 "EightReasonsModel" "token" "I") (List.mem_of_getElem? (i := 3) rfl)) (fun _ h9 => h9) rfl dX9_here_16 ?_
        refine lv_iconst (v := 2) hx hb dX9_here_19 (by decide) ?_
        have ttl_2 := tl_2
        refine lv_icmp_ne (tgt := 47) hx hb dX9_here_20 (by decide) (fun c22 => ?_) (fun c22 => ?_)
        · have kc22 := c_ne c22
          exact j47 H locs ls (by omega) hP hD hS (lv_sub hl [0, 1] rfl)
        · have kc22 := c_eq c22
          refine lv_aload_n hx hb dX9_here_23 rfl (lv_at hl 1 rfl) ?_
          refine va_get (D := D) (cl := vwCl) (ci := 9) (v := .ref (ad 163)) (C := RX9) (T := TX9) (N := 64) hx hb hts in_X9_here_X9 hown hK hP 148 (wl_at (by decide) e17) rfl 23 (by decide) (hts (.fieldLink RX9 57 "EightReasonsModel" "pName" "[J") (List.mem_of_getElem? (i := 4) rfl)) (fun _ h9 => h9) rfl dX9_here_24 ?_
          refine lv_bipush (v := 10) hx hb dX9_here_27 (by decide) ?_
          refine lv_aload_n hx hb dX9_here_29 rfl (lv_at hl 1 rfl) ?_
          refine va_get (D := D) (cl := vwCl) (ci := 9) (v := .int m_rb) (C := RX9) (T := TX9) (N := 64) hx hb hts in_X9_here_X9 hown hK hP 148 (wl_at (by decide) e17) rfl 30 (by decide) (hts (.fieldLink RX9 230 "EightReasonsModel" "rb" "I") (List.mem_of_getElem? (i := 2) rfl)) (fun _ h9 => h9) rfl dX9_here_30 ?_
          refine lv_imul hx hb dX9_here_33 ?_
          refine lv_topi (fun x23 ex23 => ?_)
          have hx23 := r_mull ex23 tl_10 (by omega) (by omega)
          refine lv_iload_n hx hb dX9_here_34 rfl (lv_at hl 0 rfl) ?_
          refine lv_iadd hx hb dX9_here_35 ?_
          refine lv_topi (fun x24 ex24 => ?_)
          have hx24 := r_add ex24 (by omega) (by omega)
          obtain ⟨g26, e25⟩ := (show okJ cy 20 (f 163) from hT.1 163 (by decide))
          refine va_lald hx hb hK hP 163 2 (wl_at (by decide) e25) rfl (vp_in_iff.mpr ⟨by omega, by omega⟩) dX9_here_36 ?_
          refine lv_topl (fun y27 _ => ?_)
          refine lv_aload_n hx hb dX9_here_37 rfl (lv_at hl 1 rfl) ?_
          refine va_get (D := D) (cl := vwCl) (ci := 9) (v := .long m_name) (C := RX9) (T := TX9) (N := 64) hx hb hts in_X9_here_X9 hown hK hP 148 (wl_at (by decide) e17) rfl 10 (by decide) (hts (.fieldLink RX9 188 "EightReasonsModel" "name" "J") (List.mem_of_getElem? (i := 5) rfl)) (fun _ h9 => h9) rfl dX9_here_38 ?_
          refine lvcmp hx hb dX9_here_41 (fun x28 hx28 => ?_)
          have ttl_0 := tl_0
          refine lv_if_ne (tgt := 47) hx hb dX9_here_42 (by decide) (fun c29 => ?_) (fun c29 => ?_)
          · have kc29 := c_ne c29
            exact j47 H locs ls (by omega) hP hD hS (lv_sub hl [0, 1] rfl)
          · have kc29 := c_eq c29
            refine lv_iload_n hx hb dX9_here_45 rfl (lv_at hl 0 rfl) ?_
            exact tI hx hb hr hlk rfl hP hS ⟨(by omega), rfl⟩ dX9_here_46
  refine lv_iconst (v := 0) hx hb dX9_here_0 (by decide) ?_
  refine lv_istore_n (lv' := [(1, .int 0), (0, .ref (ad 148))]) hx hb dX9_here_1 rfl hl (by decide) rfl (fun ls hl => ?_)
  have ttl_0 := tl_0
  exact j2 (Int.toNat (11 - (0 : Int32).toInt)) H locs ls (0 : Int32) (by omega) (by omega) hP hD hS (lv_sub hl [0, 1] rfl)
set_option maxHeartbeats 4000000 in
set_option maxRecDepth 100000 in
theorem s_X9_fresh_0 (l : Launch) (B0 : Nat) (adK adV : Nat → Nat) (D : va_G) (cy : Nat → ClassId) (ad : Nat → Nat) (fr0 : Nat → va_E) (c_text : Nat → Int32) (m_taped : Int32) (m_size : Int32) (m_faultKind : Int32) (m_faultPlace : Int32) (m_at : Int32) (m_end : Int32) (m_token : Int32) (m_number : Int32) (m_name : Int64) (c_points : Nat → Int32) (c_strands : Nat → Int32) (c_units : Nat → Int32) (c_told : Nat → Int32) (c_ruleFrom : Nat → Int32) (c_ruleTo : Nat → Int32) (c_code : Nat → Int32) (c_eWhat : Nat → Int32) (c_eSign : Nat → Int32) (m_bank : Int32) (m_rb : Int32) (m_codes : Int32) (m_within : Int32) (m_piled : Int32) (m_unitsInRule : Int32) (m_askStrand : Int32) (m_askTied : Int32) (m_thoughtClaim : Int32) (m_thoughtNeed : Int32) (m_thoughtAll : Int32) (c_roundOf : Nat → Int32) (m_acts : Int32) (m_undone : Int32) (m_laid : Int32) (m_firstMove : Int32) (m_seens : Int32) (m_time : Int32) (m_waysNow : Int32) (m_fitting : Int32) (f : Nat → va_E) (hT : TYm ad cy fr0 c_text m_taped m_size m_faultKind m_faultPlace m_at m_end m_token m_number m_name c_points c_strands c_units c_told c_ruleFrom c_ruleTo c_code c_eWhat c_eSign m_bank m_rb m_codes m_within m_piled m_unitsInRule m_askStrand m_askTied m_thoughtClaim m_thoughtNeed m_thoughtAll c_roundOf m_acts m_undone m_laid m_firstMove m_seens m_time m_waysNow m_fitting f) (hph_m_end : 0 ≤ m_end.toInt ∧ m_end.toInt ≤ 1600) (hh0 : ((m_token.toInt = 0 ∧ m_at.toInt = m_size.toInt ∧ m_end.toInt = m_size.toInt) ∨ (1 ≤ m_token.toInt ∧ m_at.toInt < m_end.toInt ∧ m_end.toInt ≤ m_size.toInt))) (sz : Nat) : TtL l yX9_fresh wsX9_fresh 2 44 [.ref (ad 148)] B0 adK adV D cy ad f sz (fun (r : Int64) (g : Nat → va_E) => True ∧ (∃ (m_faultKind' : Int32) (m_faultPlace' : Int32) (m_at' : Int32) (m_end' : Int32) (m_token' : Int32) (m_number' : Int32) (m_name' : Int64), TYm ad cy fr0 c_text m_taped m_size m_faultKind' m_faultPlace' m_at' m_end' m_token' m_number' m_name' c_points c_strands c_units c_told c_ruleFrom c_ruleTo c_code c_eWhat c_eSign m_bank m_rb m_codes m_within m_piled m_unitsInRule m_askStrand m_askTied m_thoughtClaim m_thoughtNeed m_thoughtAll c_roundOf m_acts m_undone m_laid m_firstMove m_seens m_time m_waysNow m_fitting g ∧ (0 ≤ m_end'.toInt ∧ m_end'.toInt ≤ 1600) ∧ ((m_token'.toInt = 0 ∧ m_at'.toInt = m_size.toInt ∧ m_end'.toInt = m_size.toInt) ∨ (1 ≤ m_token'.toInt ∧ m_at'.toInt < m_end'.toInt ∧ m_end'.toInt ≤ m_size.toInt)) ∧ m_at.toInt ≤ m_at'.toInt)) := by
  refine TtL.of (cc := cX9_fresh) (maxL := 3) (ty := .long) (own := RX9) (by decide) rfl (Nat.le_of_ble_eq_true rfl) rfl ?_
  intro p e s m below meth c A ls hx hb hr hml hts hown hlk hK hE hP hD hS hA hAB hl
  have hl : lv_has ls 3 [(0, .ref (ad 148))] := hl
  refine st0 (fun H locs hP hS => ?_) hP hS
  have j40 : ∀ (f : Nat → va_E) (H : Heap) (locs : List Loc) (ls : Array Slot) (v40_p_m_faultKind : Int32) (v40_p_m_faultPlace : Int32), (0 ≤ m_end.toInt ∧ m_end.toInt ≤ 1600) → (TYm ad cy fr0 c_text m_taped m_size v40_p_m_faultKind v40_p_m_faultPlace m_at m_end m_token m_number m_name c_points c_strands c_units c_told c_ruleFrom c_ruleTo c_code c_eWhat c_eSign m_bank m_rb m_codes m_within m_piled m_unitsInRule m_askStrand m_askTied m_thoughtClaim m_thoughtNeed m_thoughtAll c_roundOf m_acts m_undone m_laid m_firstMove m_seens m_time m_waysNow m_fitting f) → (va_P D vwCl (wl ad f) H) → (va_D A (wl ad f)) → (va_S A s.heap H locs) → (lv_has ls 3 [(0, .ref (ad 148))]) → W p l e (rmO 2 44 0 0) s m ([.ref (ad 148)] : List Value).toArray below meth c H locs 0 0 (MQ below (va_Ql (fun (r : Int64) (g : Nat → va_E) => True ∧ (∃ (m_faultKind' : Int32) (m_faultPlace' : Int32) (m_at' : Int32) (m_end' : Int32) (m_token' : Int32) (m_number' : Int32) (m_name' : Int64), TYm ad cy fr0 c_text m_taped m_size m_faultKind' m_faultPlace' m_at' m_end' m_token' m_number' m_name' c_points c_strands c_units c_told c_ruleFrom c_ruleTo c_code c_eWhat c_eSign m_bank m_rb m_codes m_within m_piled m_unitsInRule m_askStrand m_askTied m_thoughtClaim m_thoughtNeed m_thoughtAll c_roundOf m_acts m_undone m_laid m_firstMove m_seens m_time m_waysNow m_fitting g ∧ (0 ≤ m_end'.toInt ∧ m_end'.toInt ≤ 1600) ∧ ((m_token'.toInt = 0 ∧ m_at'.toInt = m_size.toInt ∧ m_end'.toInt = m_size.toInt) ∨ (1 ≤ m_token'.toInt ∧ m_at'.toInt < m_end'.toInt ∧ m_end'.toInt ≤ m_size.toInt)) ∧ m_at.toInt ≤ m_at'.toInt)) (fun g t => PstT D ad g t) A) ([.ref (ad 148)] : List Value).toArray s 0 0 A) (F0 m 40 ls []) := by
    intro f H locs ls v40_p_m_faultKind v40_p_m_faultPlace hv40_p_m_end hT hP hD hS hl
    refine lv_aload_n hx hb dX9_fresh_40 rfl (lv_at hl 0 rfl) ?_
    obtain ⟨e16, h1, h2, h3, h4, h5, h6, h7, h8, h9, h10, h11, h12, h13, h14, h15⟩ := (show okX9 ad m_taped m_size v40_p_m_faultKind v40_p_m_faultPlace m_at m_end m_token m_number m_name m_bank m_rb m_codes m_within m_piled m_unitsInRule m_askStrand m_askTied m_thoughtClaim m_thoughtNeed m_thoughtAll m_acts m_undone m_laid m_firstMove m_seens m_time m_waysNow m_fitting 148 (f 148) from hT.1 148 (by decide))
    refine va_get (D := D) (cl := vwCl) (ci := 9) (v := .long m_name) (C := RX9) (T := TX9) (N := 64) hx hb hts in_X9_fresh_X9 hown hK hP 148 (wl_at (by decide) e16) rfl 10 (by decide) (hts (.fieldLink RX9 188 "EightReasonsModel" "name" "J") (List.mem_of_getElem? (i := 3) rfl)) (fun _ h9 => h9) rfl dX9_fresh_41 ?_
    refine lv_lstore_n (lv' := [(1, .long m_name), (0, .ref (ad 148))]) hx hb dX9_fresh_44 rfl hl (by decide) rfl (fun ls hl => ?_)
    refine lv_aload_n hx hb dX9_fresh_45 rfl (lv_at hl 1 rfl) ?_
    refine tVI (As := []) (rest := []) (i := 148) ⟨hx, hb, hml, hown, hts⟩ hK hE hP hD hS hA hAB (s_X9_isGood_0 l B0 adK adV D cy ad fr0 c_text m_taped m_size v40_p_m_faultKind v40_p_m_faultPlace m_at m_end m_token m_number m_name c_points c_strands c_units c_told c_ruleFrom c_ruleTo c_code c_eWhat c_eSign m_bank m_rb m_codes m_within m_piled m_unitsInRule m_askStrand m_askTied m_thoughtClaim m_thoughtNeed m_thoughtAll c_roundOf m_acts m_undone m_laid m_firstMove m_seens m_time m_waysNow m_fitting f hT _) (cwV 0 hts gX9_fresh_X9_isGood rfl rfl rfl (by decide +kernel) ⟨Nat.le_of_ble_eq_true rfl, Nat.le_of_ble_eq_true rfl⟩) (by decide) 9 e16 rfl rfl hl.1 rfl (Nat.le_of_ble_eq_true rfl) dX9_fresh_46 ⟨Nat.le_of_ble_eq_true rfl, Nat.le_of_ble_eq_true rfl⟩ (fun r g H locs hw hP hD hS => ?_)
    obtain ⟨hrs, rfl⟩ := hw
    obtain ⟨x17, rfl⟩ : ∃ q, q = r := ⟨_, rfl⟩
    rcases hrs with ⟨rfl, h18⟩ | ⟨rfl, h19⟩
    · refine lv_if_eq (tgt := 56) hx hb dX9_fresh_49 (by decide) (fun c => absurd c (by decide)) (fun _ => ?_)
      refine lv_aload_n hx hb dX9_fresh_52 rfl (lv_at hl 1 rfl) ?_
      refine tVV (As := []) (rest := []) (i := 148) ⟨hx, hb, hml, hown, hts⟩ hK hE hP hD hS hA hAB (s_X9_goOn_0 l B0 adK adV D cy ad fr0 c_text m_taped m_size v40_p_m_faultKind v40_p_m_faultPlace m_at m_end m_token m_number m_name c_points c_strands c_units c_told c_ruleFrom c_ruleTo c_code c_eWhat c_eSign m_bank m_rb m_codes m_within m_piled m_unitsInRule m_askStrand m_askTied m_thoughtClaim m_thoughtNeed m_thoughtAll c_roundOf m_acts m_undone m_laid m_firstMove m_seens m_time m_waysNow m_fitting f hT (by omega) (by omega) _) (cwV 0 hts gX9_fresh_X9_goOn rfl rfl rfl (by decide +kernel) ⟨Nat.le_of_ble_eq_true rfl, Nat.le_of_ble_eq_true rfl⟩) (by decide) 9 e16 rfl rfl hl.1 rfl (Nat.le_of_ble_eq_true rfl) dX9_fresh_53 ⟨Nat.le_of_ble_eq_true rfl, Nat.le_of_ble_eq_true rfl⟩ (fun f H locs hw hP hD hS => ?_)
      obtain ⟨hrs, x20, x21, x22, x23, y24, hT, h25, h26, h27⟩ := hw
      refine lv_lload_n hx hb dX9_fresh_56 rfl (lv_at hl 0 rfl) ?_
      exact tL hx hb hr hlk hP hS ⟨trivial, ⟨v40_p_m_faultKind, v40_p_m_faultPlace, x20, x21, x22, x23, y24, hT, by omega, by omega, by omega⟩⟩ dX9_fresh_57
    · refine lv_if_eq (tgt := 56) hx hb dX9_fresh_49 (by decide) (fun _ => ?_) (fun c => absurd (by decide) c)
      refine lv_lload_n hx hb dX9_fresh_56 rfl (lv_at hl 0 rfl) ?_
      exact tL hx hb hr hlk hP hS ⟨trivial, ⟨v40_p_m_faultKind, v40_p_m_faultPlace, m_at, m_end, m_token, m_number, m_name, hT, by omega, by omega, by omega⟩⟩ dX9_fresh_57
  refine lv_aload_n hx hb dX9_fresh_0 rfl (lv_at hl 0 rfl) ?_
  obtain ⟨e43, h28, h29, h30, h31, h32, h33, h34, h35, h36, h37, h38, h39, h40, h41, h42⟩ := (show okX9 ad m_taped m_size m_faultKind m_faultPlace m_at m_end m_token m_number m_name m_bank m_rb m_codes m_within m_piled m_unitsInRule m_askStrand m_askTied m_thoughtClaim m_thoughtNeed m_thoughtAll m_acts m_undone m_laid m_firstMove m_seens m_time m_waysNow m_fitting 148 (f 148) from hT.1 148 (by decide))
  refine tVI (As := []) (rest := []) (i := 148) ⟨hx, hb, hml, hown, hts⟩ hK hE hP hD hS hA hAB (s_X9_isGood_0 l B0 adK adV D cy ad fr0 c_text m_taped m_size m_faultKind m_faultPlace m_at m_end m_token m_number m_name c_points c_strands c_units c_told c_ruleFrom c_ruleTo c_code c_eWhat c_eSign m_bank m_rb m_codes m_within m_piled m_unitsInRule m_askStrand m_askTied m_thoughtClaim m_thoughtNeed m_thoughtAll c_roundOf m_acts m_undone m_laid m_firstMove m_seens m_time m_waysNow m_fitting f hT _) (cwV 0 hts gX9_fresh_X9_isGood rfl rfl rfl (by decide +kernel) ⟨Nat.le_of_ble_eq_true rfl, Nat.le_of_ble_eq_true rfl⟩) (by decide) 9 e43 rfl rfl hl.1 rfl (Nat.le_of_ble_eq_true rfl) dX9_fresh_1 ⟨Nat.le_of_ble_eq_true rfl, Nat.le_of_ble_eq_true rfl⟩ (fun r g H locs hw hP hD hS => ?_)
  obtain ⟨hrs, rfl⟩ := hw
  obtain ⟨x44, rfl⟩ : ∃ q, q = r := ⟨_, rfl⟩
  rcases hrs with ⟨rfl, h45⟩ | ⟨rfl, h46⟩
  · refine lv_if_ne (tgt := 9) hx hb dX9_fresh_4 (by decide) (fun _ => ?_) (fun c => absurd c (by decide))
    refine lv_aload_n hx hb dX9_fresh_9 rfl (lv_at hl 0 rfl) ?_
    refine va_get (D := D) (cl := vwCl) (ci := 9) (v := .int m_token) (C := RX9) (T := TX9) (N := 64) hx hb hts in_X9_fresh_X9 hown hK hP 148 (wl_at (by decide) e43) rfl 8 (by decide) (hts (.fieldLink RX9 181 "EightReasonsModel" "token" "I") (List.mem_of_getElem? (i := 1) rfl)) (fun _ h9 => h9) rfl dX9_fresh_10 ?_
    refine lv_iconst (v := 2) hx hb dX9_fresh_13 (by decide) ?_
    have ttl_2 := tl_2
    refine lv_icmp_eq (tgt := 24) hx hb dX9_fresh_14 (by decide) (fun c47 => ?_) (fun c47 => ?_)
    · have kc47 := c_eq c47
      refine lv_aload_n hx hb dX9_fresh_24 rfl (lv_at hl 0 rfl) ?_
      refine tVI (As := []) (rest := []) (i := 148) ⟨hx, hb, hml, hown, hts⟩ hK hE hP hD hS hA hAB (s_X9_here_0 l B0 adK adV D cy ad fr0 c_text m_taped m_size m_faultKind m_faultPlace m_at m_end m_token m_number m_name c_points c_strands c_units c_told c_ruleFrom c_ruleTo c_code c_eWhat c_eSign m_bank m_rb m_codes m_within m_piled m_unitsInRule m_askStrand m_askTied m_thoughtClaim m_thoughtNeed m_thoughtAll c_roundOf m_acts m_undone m_laid m_firstMove m_seens m_time m_waysNow m_fitting f hT _) (cwV 0 hts gX9_fresh_X9_here rfl rfl rfl (by decide +kernel) ⟨Nat.le_of_ble_eq_true rfl, Nat.le_of_ble_eq_true rfl⟩) (by decide) 9 e43 rfl rfl hl.1 rfl (Nat.le_of_ble_eq_true rfl) dX9_fresh_25 ⟨Nat.le_of_ble_eq_true rfl, Nat.le_of_ble_eq_true rfl⟩ (fun r g H locs hw hP hD hS => ?_)
      obtain ⟨hrs, rfl⟩ := hw
      obtain ⟨x48, rfl⟩ : ∃ q, q = r := ⟨_, rfl⟩
      have h49 := hrs
      have ttl_0 := tl_0
      refine lv_if_lt (tgt := 40) hx hb dX9_fresh_28 (by decide) (fun c50 => ?_) (fun c50 => ?_)
      · have kc50 := c_lt c50
        exact j40 f H locs ls m_faultKind m_faultPlace (by omega) hT hP hD hS (lv_sub hl [0] rfl)
      · have kc50 := c_nlt c50
        refine lv_aload_n hx hb dX9_fresh_31 rfl (lv_at hl 0 rfl) ?_
        refine lv_iconst (v := 3) hx hb dX9_fresh_32 (by decide) ?_
        refine lv_aload_n hx hb dX9_fresh_33 rfl (lv_at hl 0 rfl) ?_
        refine va_get (D := D) (cl := vwCl) (ci := 9) (v := .int m_at) (C := RX9) (T := TX9) (N := 64) hx hb hts in_X9_fresh_X9 hown hK hP 148 (wl_at (by decide) e43) rfl 6 (by decide) (hts (.fieldLink RX9 174 "EightReasonsModel" "at" "I") (List.mem_of_getElem? (i := 2) rfl)) (fun _ h9 => h9) rfl dX9_fresh_34 ?_
        have ttl_3 := tl_3
        refine tVV (As := [.int 3, .int m_at]) (rest := []) (i := 148) ⟨hx, hb, hml, hown, hts⟩ hK hE hP hD hS hA hAB (s_X9_fails_0 l B0 adK adV D cy ad fr0 c_text m_taped m_size m_faultKind m_faultPlace m_at m_end m_token m_number m_name c_points c_strands c_units c_told c_ruleFrom c_ruleTo c_code c_eWhat c_eSign m_bank m_rb m_codes m_within m_piled m_unitsInRule m_askStrand m_askTied m_thoughtClaim m_thoughtNeed m_thoughtAll c_roundOf m_acts m_undone m_laid m_firstMove m_seens m_time m_waysNow m_fitting f hT (3 : Int32) (by omega) m_at (by omega) _) (cwV 2 hts gX9_fresh_X9_fails rfl rfl rfl (by decide +kernel) ⟨Nat.le_of_ble_eq_true rfl, Nat.le_of_ble_eq_true rfl⟩) (by decide) 9 e43 rfl rfl hl.1 rfl (Nat.le_of_ble_eq_true rfl) dX9_fresh_37 ⟨Nat.le_of_ble_eq_true rfl, Nat.le_of_ble_eq_true rfl⟩ (fun f H locs hw hP hD hS => ?_)
        obtain ⟨hrs, x51, x52, hT, h53⟩ := hw
        exact j40 f H locs ls x51 x52 (by omega) hT hP hD hS (lv_sub hl [0] rfl)
    · have kc47 := c_ne c47
      refine lv_aload_n hx hb dX9_fresh_17 rfl (lv_at hl 0 rfl) ?_
      refine tVV (As := []) (rest := []) (i := 148) ⟨hx, hb, hml, hown, hts⟩ hK hE hP hD hS hA hAB (s_X9_misplaced_0 l B0 adK adV D cy ad fr0 c_text m_taped m_size m_faultKind m_faultPlace m_at m_end m_token m_number m_name c_points c_strands c_units c_told c_ruleFrom c_ruleTo c_code c_eWhat c_eSign m_bank m_rb m_codes m_within m_piled m_unitsInRule m_askStrand m_askTied m_thoughtClaim m_thoughtNeed m_thoughtAll c_roundOf m_acts m_undone m_laid m_firstMove m_seens m_time m_waysNow m_fitting f hT _) (cwV 0 hts gX9_fresh_X9_misplaced rfl rfl rfl (by decide +kernel) ⟨Nat.le_of_ble_eq_true rfl, Nat.le_of_ble_eq_true rfl⟩) (by decide) 9 e43 rfl rfl hl.1 rfl (Nat.le_of_ble_eq_true rfl) dX9_fresh_18 ⟨Nat.le_of_ble_eq_true rfl, Nat.le_of_ble_eq_true rfl⟩ (fun f H locs hw hP hD hS => ?_)
      obtain ⟨hrs, x54, x55, hT, h56⟩ := hw
      refine lv_goto (tgt := 40) hx hb dX9_fresh_21 (by decide) ?_
      exact j40 f H locs ls x54 x55 (by omega) hT hP hD hS (lv_sub hl [0] rfl)
  · refine lv_if_ne (tgt := 9) hx hb dX9_fresh_4 (by decide) (fun c => absurd (by decide) c) (fun _ => ?_)
    have ttlj_0 := tlj_0
    refine lv_lconst (v := 0) hx hb dX9_fresh_7 (by decide) ?_
    exact tL hx hb hr hlk hP hS ⟨trivial, ⟨m_faultKind, m_faultPlace, m_at, m_end, m_token, m_number, m_name, hT, by omega, by omega, by omega⟩⟩ dX9_fresh_8
set_option maxHeartbeats 4000000 in
set_option maxRecDepth 100000 in
theorem s_X9_bit_0 (l : Launch) (B0 : Nat) (adK adV : Nat → Nat) (D : va_G) (cy : Nat → ClassId) (ad : Nat → Nat) (f : Nat → va_E) (p0 : Int32) (p1 : Int32) (hp1 : 0 ≤ p1.toInt ∧ p1.toInt ≤ 11) (sz : Nat) : TtI l yX9_bit wsX9_bit 0 0 [.int p0, .int p1] B0 adK adV D cy ad f sz (fun (r : Int32) (g : Nat → va_E) => ((r = 1 ∧ (bitF p0 p1).toInt = 1) ∨ (r = 0 ∧ ¬ (bitF p0 p1).toInt = 1)) ∧ (f = g)) := by
  refine TtI.of (cc := cX9_bit) (maxL := 2) (ty := .boolean) (own := RX9) (by decide) rfl (Nat.le_of_ble_eq_true rfl) rfl ?_
  intro p e s m below meth c A ls hx hb hr hml hts hown hlk hK hE hP hD hS hA hAB hl
  have hl : lv_has ls 2 [(0, .int p0), (1, .int p1)] := hl
  refine st0 (fun H locs hP hS => ?_) hP hS
  refine lv_iload_n hx hb dX9_bit_0 rfl (lv_at hl 0 rfl) ?_
  refine lv_iload_n hx hb dX9_bit_1 rfl (lv_at hl 1 rfl) ?_
  refine lv_ishr hx hb dX9_bit_2 ?_
  refine lv_topi (fun x1 ex1 => ?_)
  refine lv_iconst (v := 1) hx hb dX9_bit_3 (by decide) ?_
  have ttl_1 := tl_1
  refine lv_iand hx hb dX9_bit_4 ?_
  refine lv_topi (fun x2 ex2 => ?_)
  have hx2 := r_andr ex2 (by omega)
  have hbf := bitF_eq (s := p0) (k := p1) (y := x2) (by assumption) (by assumption)
  refine lv_iconst (v := 1) hx hb dX9_bit_5 (by decide) ?_
  refine lv_icmp_ne (tgt := 13) hx hb dX9_bit_6 (by decide) (fun c3 => ?_) (fun c3 => ?_)
  · have kc3 := c_ne c3
    refine lv_iconst (v := 0) hx hb dX9_bit_13 (by decide) ?_
    have ttl_0 := tl_0
    exact tI hx hb hr hlk rfl hP hS ⟨(Or.inr ⟨rfl, by omega⟩), rfl⟩ dX9_bit_14
  · have kc3 := c_eq c3
    refine lv_iconst (v := 1) hx hb dX9_bit_9 (by decide) ?_
    refine lv_goto (tgt := 14) hx hb dX9_bit_10 (by decide) ?_
    exact tI hx hb hr hlk rfl hP hS ⟨(Or.inl ⟨rfl, by omega⟩), rfl⟩ dX9_bit_14
set_option maxHeartbeats 4000000 in
set_option maxRecDepth 100000 in
theorem s_X9_isFull_0 (l : Launch) (B0 : Nat) (adK adV : Nat → Nat) (D : va_G) (cy : Nat → ClassId) (ad : Nat → Nat) (fr0 : Nat → va_E) (c_text : Nat → Int32) (m_taped : Int32) (m_size : Int32) (m_faultKind : Int32) (m_faultPlace : Int32) (m_at : Int32) (m_end : Int32) (m_token : Int32) (m_number : Int32) (m_name : Int64) (c_points : Nat → Int32) (c_strands : Nat → Int32) (c_units : Nat → Int32) (c_told : Nat → Int32) (c_ruleFrom : Nat → Int32) (c_ruleTo : Nat → Int32) (c_code : Nat → Int32) (c_eWhat : Nat → Int32) (c_eSign : Nat → Int32) (m_bank : Int32) (m_rb : Int32) (m_codes : Int32) (m_within : Int32) (m_piled : Int32) (m_unitsInRule : Int32) (m_askStrand : Int32) (m_askTied : Int32) (m_thoughtClaim : Int32) (m_thoughtNeed : Int32) (m_thoughtAll : Int32) (c_roundOf : Nat → Int32) (m_acts : Int32) (m_undone : Int32) (m_laid : Int32) (m_firstMove : Int32) (m_seens : Int32) (m_time : Int32) (m_waysNow : Int32) (m_fitting : Int32) (f : Nat → va_E) (hT : TYm ad cy fr0 c_text m_taped m_size m_faultKind m_faultPlace m_at m_end m_token m_number m_name c_points c_strands c_units c_told c_ruleFrom c_ruleTo c_code c_eWhat c_eSign m_bank m_rb m_codes m_within m_piled m_unitsInRule m_askStrand m_askTied m_thoughtClaim m_thoughtNeed m_thoughtAll c_roundOf m_acts m_undone m_laid m_firstMove m_seens m_time m_waysNow m_fitting f) (sz : Nat) : TtI l yX9_isFull wsX9_isFull 1 22 [.ref (ad 148)] B0 adK adV D cy ad f sz (fun (r : Int32) (g : Nat → va_E) => ((r = 1) ∨ (r = 0 ∧ ((m_name.toInt = 1717658484 ∨ m_name.toInt = 427020085613) → m_token.toInt = 3 → (c_points m_rb.toNatClampNeg).toInt ≤ 9) ∧ (m_name.toInt = 126943972388452 → m_token.toInt = 3 → (c_strands m_rb.toNatClampNeg).toInt ≤ 11) ∧ (m_name.toInt = 422607680115 → m_token.toInt = 3 → ¬ (bitF (c_told m_rb.toNatClampNeg) 0).toInt = 1))) ∧ (f = g)) := by
  refine TtI.of (cc := cX9_isFull) (maxL := 1) (ty := .boolean) (own := RX9) (by decide) rfl (Nat.le_of_ble_eq_true rfl) rfl ?_
  intro p e s m below meth c A ls hx hb hr hml hts hown hlk hK hE hP hD hS hA hAB hl
  have hl : lv_has ls 1 [(0, .ref (ad 148))] := hl
  refine st0 (fun H locs hP hS => ?_) hP hS
  have j144 : ∀ (H : Heap) (locs : List Loc) (ls : Array Slot), (va_P D vwCl (wl ad f) H) → (va_D A (wl ad f)) → (va_S A s.heap H locs) → (lv_has ls 1 [(0, .ref (ad 148))]) → W p l e (rmO 1 22 0 0) s m ([.ref (ad 148)] : List Value).toArray below meth c H locs 0 0 (MQ below (va_Qi (fun (r : Int32) (g : Nat → va_E) => ((r = 1) ∨ (r = 0 ∧ ((m_name.toInt = 1717658484 ∨ m_name.toInt = 427020085613) → m_token.toInt = 3 → (c_points m_rb.toNatClampNeg).toInt ≤ 9) ∧ (m_name.toInt = 126943972388452 → m_token.toInt = 3 → (c_strands m_rb.toNatClampNeg).toInt ≤ 11) ∧ (m_name.toInt = 422607680115 → m_token.toInt = 3 → ¬ (bitF (c_told m_rb.toNatClampNeg) 0).toInt = 1))) ∧ (f = g)) (fun g t => PstT D ad g t) A) ([.ref (ad 148)] : List Value).toArray s 0 0 A) (F0 m 144 ls []) := by
    intro H locs ls hP hD hS hl
    refine lv_iconst (v := 1) hx hb dX9_isFull_144 (by decide) ?_
    refine lv_goto (tgt := 149) hx hb dX9_isFull_145 (by decide) ?_
    have ttl_1 := tl_1
    exact tI hx hb hr hlk rfl hP hS ⟨(Or.inl rfl), rfl⟩ dX9_isFull_149
  have j20 : ∀ (H : Heap) (locs : List Loc) (ls : Array Slot), (3 ≤ m_token.toInt ∧ m_token.toInt ≤ 3) → ((m_name.toInt = 1717658484 ∨ m_name.toInt = 427020085613)) → (va_P D vwCl (wl ad f) H) → (va_D A (wl ad f)) → (va_S A s.heap H locs) → (lv_has ls 1 [(0, .ref (ad 148))]) → W p l e (rmO 1 22 0 0) s m ([.ref (ad 148)] : List Value).toArray below meth c H locs 0 0 (MQ below (va_Qi (fun (r : Int32) (g : Nat → va_E) => ((r = 1) ∨ (r = 0 ∧ ((m_name.toInt = 1717658484 ∨ m_name.toInt = 427020085613) → m_token.toInt = 3 → (c_points m_rb.toNatClampNeg).toInt ≤ 9) ∧ (m_name.toInt = 126943972388452 → m_token.toInt = 3 → (c_strands m_rb.toNatClampNeg).toInt ≤ 11) ∧ (m_name.toInt = 422607680115 → m_token.toInt = 3 → ¬ (bitF (c_told m_rb.toNatClampNeg) 0).toInt = 1))) ∧ (f = g)) (fun g t => PstT D ad g t) A) ([.ref (ad 148)] : List Value).toArray s 0 0 A) (F0 m 20 ls []) := by
    intro H locs ls hv20_p_m_token hJ20_0 hP hD hS hl
    refine lv_aload_n hx hb dX9_isFull_20 rfl (lv_at hl 0 rfl) ?_
    obtain ⟨e16, h1, h2, h3, h4, h5, h6, h7, h8, h9, h10, h11, h12, h13, h14, h15⟩ := (show okX9 ad m_taped m_size m_faultKind m_faultPlace m_at m_end m_token m_number m_name m_bank m_rb m_codes m_within m_piled m_unitsInRule m_askStrand m_askTied m_thoughtClaim m_thoughtNeed m_thoughtAll m_acts m_undone m_laid m_firstMove m_seens m_time m_waysNow m_fitting 148 (f 148) from hT.1 148 (by decide))
    refine va_get (D := D) (cl := vwCl) (ci := 9) (v := .ref (ad 151)) (C := RX9) (T := TX9) (N := 64) hx hb hts in_X9_isFull_X9 hown hK hP 148 (wl_at (by decide) e16) rfl 11 (by decide) (hts (.fieldLink RX9 20 "EightReasonsModel" "points" "[I") (List.mem_of_getElem? (i := 3) rfl)) (fun _ h9 => h9) rfl dX9_isFull_21 ?_
    refine lv_aload_n hx hb dX9_isFull_24 rfl (lv_at hl 0 rfl) ?_
    refine va_get (D := D) (cl := vwCl) (ci := 9) (v := .int m_rb) (C := RX9) (T := TX9) (N := 64) hx hb hts in_X9_isFull_X9 hown hK hP 148 (wl_at (by decide) e16) rfl 30 (by decide) (hts (.fieldLink RX9 230 "EightReasonsModel" "rb" "I") (List.mem_of_getElem? (i := 4) rfl)) (fun _ h9 => h9) rfl dX9_isFull_25 ?_
    obtain ⟨e17, h18⟩ := (show okIpr cy 2 (0) (10) 1 0 c_points (f 151) from hT.1 151 (by decide))
    refine va_iald hx hb hK hP 151 0 (wl_at (by decide) e17) rfl (vp_in_iff.mpr ⟨by omega, by omega⟩) dX9_isFull_28 ?_
    refine lv_topi (fun x19 ex19 => ?_)
    have hx19 := r_el (h18 _ (Nat.mod_one _)) ex19
    have kx19 := congrArg Int32.toInt ex19
    refine lv_bipush (v := 10) hx hb dX9_isFull_29 (by decide) ?_
    have ttl_10 := tl_10
    refine lv_icmp_ne (tgt := 38) hx hb dX9_isFull_31 (by decide) (fun c20 => ?_) (fun c20 => ?_)
    · have kc20 := c_ne c20
      refine lv_iconst (v := 0) hx hb dX9_isFull_38 (by decide) ?_
      have ttl_0 := tl_0
      exact tI hx hb hr hlk rfl hP hS ⟨(Or.inr ⟨rfl, by omega, by omega, by omega⟩), rfl⟩ dX9_isFull_39
    · have kc20 := c_eq c20
      refine lv_iconst (v := 1) hx hb dX9_isFull_34 (by decide) ?_
      refine lv_goto (tgt := 39) hx hb dX9_isFull_35 (by decide) ?_
      have ttl_1 := tl_1
      exact tI hx hb hr hlk rfl hP hS ⟨(Or.inl rfl), rfl⟩ dX9_isFull_39
  refine lv_aload_n hx hb dX9_isFull_0 rfl (lv_at hl 0 rfl) ?_
  have ttlj_1717658484 := tlj_1717658484
  refine lv_ldc2 (v := 1717658484) hx hb hown (hts (.constantLong RX9 143 (1717658484)) (List.mem_of_getElem? (i := 1) rfl)) dX9_isFull_1 ?_
  obtain ⟨e36, h21, h22, h23, h24, h25, h26, h27, h28, h29, h30, h31, h32, h33, h34, h35⟩ := (show okX9 ad m_taped m_size m_faultKind m_faultPlace m_at m_end m_token m_number m_name m_bank m_rb m_codes m_within m_piled m_unitsInRule m_askStrand m_askTied m_thoughtClaim m_thoughtNeed m_thoughtAll m_acts m_undone m_laid m_firstMove m_seens m_time m_waysNow m_fitting 148 (f 148) from hT.1 148 (by decide))
  refine tVI (As := [.long 1717658484]) (rest := []) (i := 148) ⟨hx, hb, hml, hown, hts⟩ hK hE hP hD hS hA hAB (s_X9_isWord_0 l B0 adK adV D cy ad fr0 c_text m_taped m_size m_faultKind m_faultPlace m_at m_end m_token m_number m_name c_points c_strands c_units c_told c_ruleFrom c_ruleTo c_code c_eWhat c_eSign m_bank m_rb m_codes m_within m_piled m_unitsInRule m_askStrand m_askTied m_thoughtClaim m_thoughtNeed m_thoughtAll c_roundOf m_acts m_undone m_laid m_firstMove m_seens m_time m_waysNow m_fitting f hT (1717658484 : Int64) _) (cwV 1 hts gX9_isFull_X9_isWord rfl rfl rfl (by decide +kernel) ⟨Nat.le_of_ble_eq_true rfl, Nat.le_of_ble_eq_true rfl⟩) (by decide) 9 e36 rfl rfl hl.1 rfl (Nat.le_of_ble_eq_true rfl) dX9_isFull_4 ⟨Nat.le_of_ble_eq_true rfl, Nat.le_of_ble_eq_true rfl⟩ (fun r g H locs hw hP hD hS => ?_)
  obtain ⟨hrs, rfl⟩ := hw
  obtain ⟨x37, rfl⟩ : ∃ q, q = r := ⟨_, rfl⟩
  rcases hrs with ⟨rfl, h38, h39⟩ | ⟨rfl, h40⟩
  · refine lv_if_ne (tgt := 20) hx hb dX9_isFull_7 (by decide) (fun _ => ?_) (fun c => absurd c (by decide))
    exact j20 H locs ls (by omega) (by omega) hP hD hS (lv_sub hl [0] rfl)
  · refine lv_if_ne (tgt := 20) hx hb dX9_isFull_7 (by decide) (fun c => absurd (by decide) c) (fun _ => ?_)
    refine lv_aload_n hx hb dX9_isFull_10 rfl (lv_at hl 0 rfl) ?_
    have ttlj_427020085613 := tlj_427020085613
    refine lv_ldc2 (v := 427020085613) hx hb hown (hts (.constantLong RX9 145 (427020085613)) (List.mem_of_getElem? (i := 2) rfl)) dX9_isFull_11 ?_
    refine tVI (As := [.long 427020085613]) (rest := []) (i := 148) ⟨hx, hb, hml, hown, hts⟩ hK hE hP hD hS hA hAB (s_X9_isWord_0 l B0 adK adV D cy ad fr0 c_text m_taped m_size m_faultKind m_faultPlace m_at m_end m_token m_number m_name c_points c_strands c_units c_told c_ruleFrom c_ruleTo c_code c_eWhat c_eSign m_bank m_rb m_codes m_within m_piled m_unitsInRule m_askStrand m_askTied m_thoughtClaim m_thoughtNeed m_thoughtAll c_roundOf m_acts m_undone m_laid m_firstMove m_seens m_time m_waysNow m_fitting f hT (427020085613 : Int64) _) (cwV 1 hts gX9_isFull_X9_isWord rfl rfl rfl (by decide +kernel) ⟨Nat.le_of_ble_eq_true rfl, Nat.le_of_ble_eq_true rfl⟩) (by decide) 9 e36 rfl rfl hl.1 rfl (Nat.le_of_ble_eq_true rfl) dX9_isFull_14 ⟨Nat.le_of_ble_eq_true rfl, Nat.le_of_ble_eq_true rfl⟩ (fun r g H locs hw hP hD hS => ?_)
    obtain ⟨hrs, rfl⟩ := hw
    obtain ⟨x41, rfl⟩ : ∃ q, q = r := ⟨_, rfl⟩
    rcases hrs with ⟨rfl, h42, h43⟩ | ⟨rfl, h44⟩
    · refine lv_if_eq (tgt := 40) hx hb dX9_isFull_17 (by decide) (fun c => absurd c (by decide)) (fun _ => ?_)
      exact j20 H locs ls (by omega) (by omega) hP hD hS (lv_sub hl [0] rfl)
    · refine lv_if_eq (tgt := 40) hx hb dX9_isFull_17 (by decide) (fun _ => ?_) (fun c => absurd (by decide) c)
      refine lv_aload_n hx hb dX9_isFull_40 rfl (lv_at hl 0 rfl) ?_
      have ttlj_126943972388452 := tlj_126943972388452
      refine lv_ldc2 (v := 126943972388452) hx hb hown (hts (.constantLong RX9 149 (126943972388452)) (List.mem_of_getElem? (i := 5) rfl)) dX9_isFull_41 ?_
      refine tVI (As := [.long 126943972388452]) (rest := []) (i := 148) ⟨hx, hb, hml, hown, hts⟩ hK hE hP hD hS hA hAB (s_X9_isWord_0 l B0 adK adV D cy ad fr0 c_text m_taped m_size m_faultKind m_faultPlace m_at m_end m_token m_number m_name c_points c_strands c_units c_told c_ruleFrom c_ruleTo c_code c_eWhat c_eSign m_bank m_rb m_codes m_within m_piled m_unitsInRule m_askStrand m_askTied m_thoughtClaim m_thoughtNeed m_thoughtAll c_roundOf m_acts m_undone m_laid m_firstMove m_seens m_time m_waysNow m_fitting f hT (126943972388452 : Int64) _) (cwV 1 hts gX9_isFull_X9_isWord rfl rfl rfl (by decide +kernel) ⟨Nat.le_of_ble_eq_true rfl, Nat.le_of_ble_eq_true rfl⟩) (by decide) 9 e36 rfl rfl hl.1 rfl (Nat.le_of_ble_eq_true rfl) dX9_isFull_44 ⟨Nat.le_of_ble_eq_true rfl, Nat.le_of_ble_eq_true rfl⟩ (fun r g H locs hw hP hD hS => ?_)
      obtain ⟨hrs, rfl⟩ := hw
      obtain ⟨x45, rfl⟩ : ∃ q, q = r := ⟨_, rfl⟩
      rcases hrs with ⟨rfl, h46, h47⟩ | ⟨rfl, h48⟩
      · refine lv_if_eq (tgt := 70) hx hb dX9_isFull_47 (by decide) (fun c => absurd c (by decide)) (fun _ => ?_)
        refine lv_aload_n hx hb dX9_isFull_50 rfl (lv_at hl 0 rfl) ?_
        refine va_get (D := D) (cl := vwCl) (ci := 9) (v := .ref (ad 152)) (C := RX9) (T := TX9) (N := 64) hx hb hts in_X9_isFull_X9 hown hK hP 148 (wl_at (by decide) e36) rfl 12 (by decide) (hts (.fieldLink RX9 24 "EightReasonsModel" "strands" "[I") (List.mem_of_getElem? (i := 6) rfl)) (fun _ h9 => h9) rfl dX9_isFull_51 ?_
        refine lv_aload_n hx hb dX9_isFull_54 rfl (lv_at hl 0 rfl) ?_
        refine va_get (D := D) (cl := vwCl) (ci := 9) (v := .int m_rb) (C := RX9) (T := TX9) (N := 64) hx hb hts in_X9_isFull_X9 hown hK hP 148 (wl_at (by decide) e36) rfl 30 (by decide) (hts (.fieldLink RX9 230 "EightReasonsModel" "rb" "I") (List.mem_of_getElem? (i := 4) rfl)) (fun _ h9 => h9) rfl dX9_isFull_55 ?_
        obtain ⟨e49, h50⟩ := (show okIpr cy 2 (0) (12) 1 0 c_strands (f 152) from hT.1 152 (by decide))
        refine va_iald hx hb hK hP 152 0 (wl_at (by decide) e49) rfl (vp_in_iff.mpr ⟨by omega, by omega⟩) dX9_isFull_58 ?_
        refine lv_topi (fun x51 ex51 => ?_)
        have hx51 := r_el (h50 _ (Nat.mod_one _)) ex51
        have kx51 := congrArg Int32.toInt ex51
        refine lv_bipush (v := 12) hx hb dX9_isFull_59 (by decide) ?_
        have ttl_12 := tl_12
        refine lv_icmp_ne (tgt := 68) hx hb dX9_isFull_61 (by decide) (fun c52 => ?_) (fun c52 => ?_)
        · have kc52 := c_ne c52
          refine lv_iconst (v := 0) hx hb dX9_isFull_68 (by decide) ?_
          have ttl_0 := tl_0
          exact tI hx hb hr hlk rfl hP hS ⟨(Or.inr ⟨rfl, by omega, by omega, by omega⟩), rfl⟩ dX9_isFull_69
        · have kc52 := c_eq c52
          refine lv_iconst (v := 1) hx hb dX9_isFull_64 (by decide) ?_
          refine lv_goto (tgt := 69) hx hb dX9_isFull_65 (by decide) ?_
          have ttl_1 := tl_1
          exact tI hx hb hr hlk rfl hP hS ⟨(Or.inl rfl), rfl⟩ dX9_isFull_69
      · refine lv_if_eq (tgt := 70) hx hb dX9_isFull_47 (by decide) (fun _ => ?_) (fun c => absurd (by decide) c)
        refine lv_aload_n hx hb dX9_isFull_70 rfl (lv_at hl 0 rfl) ?_
        have ttlj_422607680115 := tlj_422607680115
        refine lv_ldc2 (v := 422607680115) hx hb hown (hts (.constantLong RX9 153 (422607680115)) (List.mem_of_getElem? (i := 7) rfl)) dX9_isFull_71 ?_
        refine tVI (As := [.long 422607680115]) (rest := []) (i := 148) ⟨hx, hb, hml, hown, hts⟩ hK hE hP hD hS hA hAB (s_X9_isWord_0 l B0 adK adV D cy ad fr0 c_text m_taped m_size m_faultKind m_faultPlace m_at m_end m_token m_number m_name c_points c_strands c_units c_told c_ruleFrom c_ruleTo c_code c_eWhat c_eSign m_bank m_rb m_codes m_within m_piled m_unitsInRule m_askStrand m_askTied m_thoughtClaim m_thoughtNeed m_thoughtAll c_roundOf m_acts m_undone m_laid m_firstMove m_seens m_time m_waysNow m_fitting f hT (422607680115 : Int64) _) (cwV 1 hts gX9_isFull_X9_isWord rfl rfl rfl (by decide +kernel) ⟨Nat.le_of_ble_eq_true rfl, Nat.le_of_ble_eq_true rfl⟩) (by decide) 9 e36 rfl rfl hl.1 rfl (Nat.le_of_ble_eq_true rfl) dX9_isFull_74 ⟨Nat.le_of_ble_eq_true rfl, Nat.le_of_ble_eq_true rfl⟩ (fun r g H locs hw hP hD hS => ?_)
        obtain ⟨hrs, rfl⟩ := hw
        obtain ⟨x53, rfl⟩ : ∃ q, q = r := ⟨_, rfl⟩
        rcases hrs with ⟨rfl, h54, h55⟩ | ⟨rfl, h56⟩
        · refine lv_if_eq (tgt := 94) hx hb dX9_isFull_77 (by decide) (fun c => absurd c (by decide)) (fun _ => ?_)
          refine lv_aload_n hx hb dX9_isFull_80 rfl (lv_at hl 0 rfl) ?_
          refine va_get (D := D) (cl := vwCl) (ci := 9) (v := .ref (ad 156)) (C := RX9) (T := TX9) (N := 64) hx hb hts in_X9_isFull_X9 hown hK hP 148 (wl_at (by decide) e36) rfl 16 (by decide) (hts (.fieldLink RX9 36 "EightReasonsModel" "told" "[I") (List.mem_of_getElem? (i := 8) rfl)) (fun _ h9 => h9) rfl dX9_isFull_81 ?_
          refine lv_aload_n hx hb dX9_isFull_84 rfl (lv_at hl 0 rfl) ?_
          refine va_get (D := D) (cl := vwCl) (ci := 9) (v := .int m_rb) (C := RX9) (T := TX9) (N := 64) hx hb hts in_X9_isFull_X9 hown hK hP 148 (wl_at (by decide) e36) rfl 30 (by decide) (hts (.fieldLink RX9 230 "EightReasonsModel" "rb" "I") (List.mem_of_getElem? (i := 4) rfl)) (fun _ h9 => h9) rfl dX9_isFull_85 ?_
          have e57 : f 156 = _ := (show okIp cy 2 c_told (f 156) from hT.1 156 (by decide))
          refine va_iald hx hb hK hP 156 0 (wl_at (by decide) e57) rfl (vp_in_iff.mpr ⟨by omega, by omega⟩) dX9_isFull_88 ?_
          refine lv_topi (fun x58 ex58 => ?_)
          have kx58 := congrArg Int32.toInt ex58
          refine lv_iconst (v := 0) hx hb dX9_isFull_89 (by decide) ?_
          have ttl_0 := tl_0
          refine tSI (As := [.int x58, .int 0]) (rest := []) ⟨hx, hb, hml, hown, hts⟩ hK hE hP hD hS hA hAB (s_X9_bit_0 l B0 adK adV D cy ad f x58 (0 : Int32) (by omega) _) (va_cwS 2 hts gX9_isFull_X9_bit rfl rfl rfl (by decide +kernel) ⟨Nat.le_of_ble_eq_true rfl, Nat.le_of_ble_eq_true rfl⟩) rfl hl.1 rfl (Nat.le_of_ble_eq_true rfl) dX9_isFull_90 ⟨Nat.le_of_ble_eq_true rfl, Nat.le_of_ble_eq_true rfl⟩ (fun r g H locs hw hP hD hS => ?_)
          obtain ⟨hrs, rfl⟩ := hw
          obtain ⟨x59, rfl⟩ : ∃ q, q = r := ⟨_, rfl⟩
          rcases hrs with ⟨rfl, h60⟩ | ⟨rfl, h61⟩
          · have hbx := bitx (y := c_told m_rb.toNatClampNeg) (k := 0) (by assumption)
            have ttl_1 := tl_1
            exact tI hx hb hr hlk rfl hP hS ⟨(Or.inl rfl), rfl⟩ dX9_isFull_93
          · have hbx := bitx (y := c_told m_rb.toNatClampNeg) (k := 0) (by assumption)
            exact tI hx hb hr hlk rfl hP hS ⟨(Or.inr ⟨rfl, by omega, by omega, by omega⟩), rfl⟩ dX9_isFull_93
        · refine lv_if_eq (tgt := 94) hx hb dX9_isFull_77 (by decide) (fun _ => ?_) (fun c => absurd (by decide) c)
          refine lv_aload_n hx hb dX9_isFull_94 rfl (lv_at hl 0 rfl) ?_
          have ttlj_1718772089 := tlj_1718772089
          refine lv_ldc2 (v := 1718772089) hx hb hown (hts (.constantLong RX9 155 (1718772089)) (List.mem_of_getElem? (i := 9) rfl)) dX9_isFull_95 ?_
          refine tVI (As := [.long 1718772089]) (rest := []) (i := 148) ⟨hx, hb, hml, hown, hts⟩ hK hE hP hD hS hA hAB (s_X9_isWord_0 l B0 adK adV D cy ad fr0 c_text m_taped m_size m_faultKind m_faultPlace m_at m_end m_token m_number m_name c_points c_strands c_units c_told c_ruleFrom c_ruleTo c_code c_eWhat c_eSign m_bank m_rb m_codes m_within m_piled m_unitsInRule m_askStrand m_askTied m_thoughtClaim m_thoughtNeed m_thoughtAll c_roundOf m_acts m_undone m_laid m_firstMove m_seens m_time m_waysNow m_fitting f hT (1718772089 : Int64) _) (cwV 1 hts gX9_isFull_X9_isWord rfl rfl rfl (by decide +kernel) ⟨Nat.le_of_ble_eq_true rfl, Nat.le_of_ble_eq_true rfl⟩) (by decide) 9 e36 rfl rfl hl.1 rfl (Nat.le_of_ble_eq_true rfl) dX9_isFull_98 ⟨Nat.le_of_ble_eq_true rfl, Nat.le_of_ble_eq_true rfl⟩ (fun r g H locs hw hP hD hS => ?_)
          obtain ⟨hrs, rfl⟩ := hw
          obtain ⟨x62, rfl⟩ : ∃ q, q = r := ⟨_, rfl⟩
          rcases hrs with ⟨rfl, h63, h64⟩ | ⟨rfl, h65⟩
          · refine lv_if_eq (tgt := 118) hx hb dX9_isFull_101 (by decide) (fun c => absurd c (by decide)) (fun _ => ?_)
            refine lv_aload_n hx hb dX9_isFull_104 rfl (lv_at hl 0 rfl) ?_
            refine va_get (D := D) (cl := vwCl) (ci := 9) (v := .ref (ad 156)) (C := RX9) (T := TX9) (N := 64) hx hb hts in_X9_isFull_X9 hown hK hP 148 (wl_at (by decide) e36) rfl 16 (by decide) (hts (.fieldLink RX9 36 "EightReasonsModel" "told" "[I") (List.mem_of_getElem? (i := 8) rfl)) (fun _ h9 => h9) rfl dX9_isFull_105 ?_
            refine lv_aload_n hx hb dX9_isFull_108 rfl (lv_at hl 0 rfl) ?_
            refine va_get (D := D) (cl := vwCl) (ci := 9) (v := .int m_rb) (C := RX9) (T := TX9) (N := 64) hx hb hts in_X9_isFull_X9 hown hK hP 148 (wl_at (by decide) e36) rfl 30 (by decide) (hts (.fieldLink RX9 230 "EightReasonsModel" "rb" "I") (List.mem_of_getElem? (i := 4) rfl)) (fun _ h9 => h9) rfl dX9_isFull_109 ?_
            have e66 : f 156 = _ := (show okIp cy 2 c_told (f 156) from hT.1 156 (by decide))
            refine va_iald hx hb hK hP 156 0 (wl_at (by decide) e66) rfl (vp_in_iff.mpr ⟨by omega, by omega⟩) dX9_isFull_112 ?_
            refine lv_topi (fun x67 ex67 => ?_)
            have kx67 := congrArg Int32.toInt ex67
            refine lv_iconst (v := 1) hx hb dX9_isFull_113 (by decide) ?_
            have ttl_1 := tl_1
            refine tSI (As := [.int x67, .int 1]) (rest := []) ⟨hx, hb, hml, hown, hts⟩ hK hE hP hD hS hA hAB (s_X9_bit_0 l B0 adK adV D cy ad f x67 (1 : Int32) (by omega) _) (va_cwS 2 hts gX9_isFull_X9_bit rfl rfl rfl (by decide +kernel) ⟨Nat.le_of_ble_eq_true rfl, Nat.le_of_ble_eq_true rfl⟩) rfl hl.1 rfl (Nat.le_of_ble_eq_true rfl) dX9_isFull_114 ⟨Nat.le_of_ble_eq_true rfl, Nat.le_of_ble_eq_true rfl⟩ (fun r g H locs hw hP hD hS => ?_)
            obtain ⟨hrs, rfl⟩ := hw
            obtain ⟨x68, rfl⟩ : ∃ q, q = r := ⟨_, rfl⟩
            rcases hrs with ⟨rfl, h69⟩ | ⟨rfl, h70⟩
            · exact tI hx hb hr hlk rfl hP hS ⟨(Or.inl rfl), rfl⟩ dX9_isFull_117
            · have ttl_0 := tl_0
              exact tI hx hb hr hlk rfl hP hS ⟨(Or.inr ⟨rfl, by omega, by omega, by omega⟩), rfl⟩ dX9_isFull_117
          · refine lv_if_eq (tgt := 118) hx hb dX9_isFull_101 (by decide) (fun _ => ?_) (fun c => absurd (by decide) c)
            refine lv_aload_n hx hb dX9_isFull_118 rfl (lv_at hl 0 rfl) ?_
            have ttlj_1685217655 := tlj_1685217655
            refine lv_ldc2 (v := 1685217655) hx hb hown (hts (.constantLong RX9 157 (1685217655)) (List.mem_of_getElem? (i := 10) rfl)) dX9_isFull_119 ?_
            refine tVI (As := [.long 1685217655]) (rest := []) (i := 148) ⟨hx, hb, hml, hown, hts⟩ hK hE hP hD hS hA hAB (s_X9_isWord_0 l B0 adK adV D cy ad fr0 c_text m_taped m_size m_faultKind m_faultPlace m_at m_end m_token m_number m_name c_points c_strands c_units c_told c_ruleFrom c_ruleTo c_code c_eWhat c_eSign m_bank m_rb m_codes m_within m_piled m_unitsInRule m_askStrand m_askTied m_thoughtClaim m_thoughtNeed m_thoughtAll c_roundOf m_acts m_undone m_laid m_firstMove m_seens m_time m_waysNow m_fitting f hT (1685217655 : Int64) _) (cwV 1 hts gX9_isFull_X9_isWord rfl rfl rfl (by decide +kernel) ⟨Nat.le_of_ble_eq_true rfl, Nat.le_of_ble_eq_true rfl⟩) (by decide) 9 e36 rfl rfl hl.1 rfl (Nat.le_of_ble_eq_true rfl) dX9_isFull_122 ⟨Nat.le_of_ble_eq_true rfl, Nat.le_of_ble_eq_true rfl⟩ (fun r g H locs hw hP hD hS => ?_)
            obtain ⟨hrs, rfl⟩ := hw
            obtain ⟨x71, rfl⟩ : ∃ q, q = r := ⟨_, rfl⟩
            rcases hrs with ⟨rfl, h72, h73⟩ | ⟨rfl, h74⟩
            · refine lv_if_eq (tgt := 144) hx hb dX9_isFull_125 (by decide) (fun c => absurd c (by decide)) (fun _ => ?_)
              refine lv_aload_n hx hb dX9_isFull_128 rfl (lv_at hl 0 rfl) ?_
              refine va_get (D := D) (cl := vwCl) (ci := 9) (v := .ref (ad 156)) (C := RX9) (T := TX9) (N := 64) hx hb hts in_X9_isFull_X9 hown hK hP 148 (wl_at (by decide) e36) rfl 16 (by decide) (hts (.fieldLink RX9 36 "EightReasonsModel" "told" "[I") (List.mem_of_getElem? (i := 8) rfl)) (fun _ h9 => h9) rfl dX9_isFull_129 ?_
              refine lv_aload_n hx hb dX9_isFull_132 rfl (lv_at hl 0 rfl) ?_
              refine va_get (D := D) (cl := vwCl) (ci := 9) (v := .int m_rb) (C := RX9) (T := TX9) (N := 64) hx hb hts in_X9_isFull_X9 hown hK hP 148 (wl_at (by decide) e36) rfl 30 (by decide) (hts (.fieldLink RX9 230 "EightReasonsModel" "rb" "I") (List.mem_of_getElem? (i := 4) rfl)) (fun _ h9 => h9) rfl dX9_isFull_133 ?_
              have e75 : f 156 = _ := (show okIp cy 2 c_told (f 156) from hT.1 156 (by decide))
              refine va_iald hx hb hK hP 156 0 (wl_at (by decide) e75) rfl (vp_in_iff.mpr ⟨by omega, by omega⟩) dX9_isFull_136 ?_
              refine lv_topi (fun x76 ex76 => ?_)
              have kx76 := congrArg Int32.toInt ex76
              refine lv_iconst (v := 2) hx hb dX9_isFull_137 (by decide) ?_
              have ttl_2 := tl_2
              refine tSI (As := [.int x76, .int 2]) (rest := []) ⟨hx, hb, hml, hown, hts⟩ hK hE hP hD hS hA hAB (s_X9_bit_0 l B0 adK adV D cy ad f x76 (2 : Int32) (by omega) _) (va_cwS 2 hts gX9_isFull_X9_bit rfl rfl rfl (by decide +kernel) ⟨Nat.le_of_ble_eq_true rfl, Nat.le_of_ble_eq_true rfl⟩) rfl hl.1 rfl (Nat.le_of_ble_eq_true rfl) dX9_isFull_138 ⟨Nat.le_of_ble_eq_true rfl, Nat.le_of_ble_eq_true rfl⟩ (fun r g H locs hw hP hD hS => ?_)
              obtain ⟨hrs, rfl⟩ := hw
              obtain ⟨x77, rfl⟩ : ∃ q, q = r := ⟨_, rfl⟩
              rcases hrs with ⟨rfl, h78⟩ | ⟨rfl, h79⟩
              · refine lv_if_eq (tgt := 148) hx hb dX9_isFull_141 (by decide) (fun c => absurd c (by decide)) (fun _ => ?_)
                exact j144 H locs ls hP hD hS (lv_sub hl [0] rfl)
              · refine lv_if_eq (tgt := 148) hx hb dX9_isFull_141 (by decide) (fun _ => ?_) (fun c => absurd (by decide) c)
                refine lv_iconst (v := 0) hx hb dX9_isFull_148 (by decide) ?_
                have ttl_0 := tl_0
                exact tI hx hb hr hlk rfl hP hS ⟨(Or.inr ⟨rfl, by omega, by omega, by omega⟩), rfl⟩ dX9_isFull_149
            · refine lv_if_eq (tgt := 144) hx hb dX9_isFull_125 (by decide) (fun _ => ?_) (fun c => absurd (by decide) c)
              exact j144 H locs ls hP hD hS (lv_sub hl [0] rfl)
set_option maxHeartbeats 4000000 in
set_option maxRecDepth 100000 in
theorem s_X9_isSignHere_0 (l : Launch) (B0 : Nat) (adK adV : Nat → Nat) (D : va_G) (cy : Nat → ClassId) (ad : Nat → Nat) (fr0 : Nat → va_E) (c_text : Nat → Int32) (m_taped : Int32) (m_size : Int32) (m_faultKind : Int32) (m_faultPlace : Int32) (m_at : Int32) (m_end : Int32) (m_token : Int32) (m_number : Int32) (m_name : Int64) (c_points : Nat → Int32) (c_strands : Nat → Int32) (c_units : Nat → Int32) (c_told : Nat → Int32) (c_ruleFrom : Nat → Int32) (c_ruleTo : Nat → Int32) (c_code : Nat → Int32) (c_eWhat : Nat → Int32) (c_eSign : Nat → Int32) (m_bank : Int32) (m_rb : Int32) (m_codes : Int32) (m_within : Int32) (m_piled : Int32) (m_unitsInRule : Int32) (m_askStrand : Int32) (m_askTied : Int32) (m_thoughtClaim : Int32) (m_thoughtNeed : Int32) (m_thoughtAll : Int32) (c_roundOf : Nat → Int32) (m_acts : Int32) (m_undone : Int32) (m_laid : Int32) (m_firstMove : Int32) (m_seens : Int32) (m_time : Int32) (m_waysNow : Int32) (m_fitting : Int32) (f : Nat → va_E) (hT : TYm ad cy fr0 c_text m_taped m_size m_faultKind m_faultPlace m_at m_end m_token m_number m_name c_points c_strands c_units c_told c_ruleFrom c_ruleTo c_code c_eWhat c_eSign m_bank m_rb m_codes m_within m_piled m_unitsInRule m_askStrand m_askTied m_thoughtClaim m_thoughtNeed m_thoughtAll c_roundOf m_acts m_undone m_laid m_firstMove m_seens m_time m_waysNow m_fitting f) (p1 : Int32) (hp1 : 1 ≤ p1.toInt ∧ p1.toInt ≤ 63) (sz : Nat) : TtI l yX9_isSignHere wsX9_isSignHere 1 21 [.ref (ad 148), .int p1] B0 adK adV D cy ad f sz (fun (r : Int32) (g : Nat → va_E) => ((r = 1 ∧ m_token.toInt = 5 ∧ (sgF c_text m_size m_at).toInt = p1.toInt) ∨ (r = 0)) ∧ (f = g)) := by
  refine TtI.of (cc := cX9_isSignHere) (maxL := 2) (ty := .boolean) (own := RX9) (by decide) rfl (Nat.le_of_ble_eq_true rfl) rfl ?_
  intro p e s m below meth c A ls hx hb hr hml hts hown hlk hK hE hP hD hS hA hAB hl
  have hl : lv_has ls 2 [(0, .ref (ad 148)), (1, .int p1)] := hl
  refine st0 (fun H locs hP hS => ?_) hP hS
  refine lv_aload_n hx hb dX9_isSignHere_0 rfl (lv_at hl 0 rfl) ?_
  obtain ⟨e16, h1, h2, h3, h4, h5, h6, h7, h8, h9, h10, h11, h12, h13, h14, h15⟩ := (show okX9 ad m_taped m_size m_faultKind m_faultPlace m_at m_end m_token m_number m_name m_bank m_rb m_codes m_within m_piled m_unitsInRule m_askStrand m_askTied m_thoughtClaim m_thoughtNeed m_thoughtAll m_acts m_undone m_laid m_firstMove m_seens m_time m_waysNow m_fitting 148 (f 148) from hT.1 148 (by decide))
  refine va_get (D := D) (cl := vwCl) (ci := 9) (v := .int m_token) (C := RX9) (T := TX9) (N := 64) hx hb hts in_X9_isSignHere_X9 hown hK hP 148 (wl_at (by decide) e16) rfl 8 (by decide) (hts (.fieldLink RX9 181 "EightReasonsModel" "token" "I") (List.mem_of_getElem? (i := 1) rfl)) (fun _ h9 => h9) rfl dX9_isSignHere_1 ?_
  refine lv_iconst (v := 5) hx hb dX9_isSignHere_4 (by decide) ?_
  have ttl_5 := tl_5
  refine lv_icmp_ne (tgt := 24) hx hb dX9_isSignHere_5 (by decide) (fun c17 => ?_) (fun c17 => ?_)
  · have kc17 := c_ne c17
    refine lv_iconst (v := 0) hx hb dX9_isSignHere_24 (by decide) ?_
    have ttl_0 := tl_0
    exact tI hx hb hr hlk rfl hP hS ⟨(Or.inr rfl), rfl⟩ dX9_isSignHere_25
  · have kc17 := c_eq c17
    refine lv_aload_n hx hb dX9_isSignHere_8 rfl (lv_at hl 0 rfl) ?_
    refine lv_aload_n hx hb dX9_isSignHere_9 rfl (lv_at hl 0 rfl) ?_
    refine va_get (D := D) (cl := vwCl) (ci := 9) (v := .int m_at) (C := RX9) (T := TX9) (N := 64) hx hb hts in_X9_isSignHere_X9 hown hK hP 148 (wl_at (by decide) e16) rfl 6 (by decide) (hts (.fieldLink RX9 174 "EightReasonsModel" "at" "I") (List.mem_of_getElem? (i := 2) rfl)) (fun _ h9 => h9) rfl dX9_isSignHere_10 ?_
    refine tVI (As := [.int m_at]) (rest := []) (i := 148) ⟨hx, hb, hml, hown, hts⟩ hK hE hP hD hS hA hAB (s_X9_sign_0 l B0 adK adV D cy ad fr0 c_text m_taped m_size m_faultKind m_faultPlace m_at m_end m_token m_number m_name c_points c_strands c_units c_told c_ruleFrom c_ruleTo c_code c_eWhat c_eSign m_bank m_rb m_codes m_within m_piled m_unitsInRule m_askStrand m_askTied m_thoughtClaim m_thoughtNeed m_thoughtAll c_roundOf m_acts m_undone m_laid m_firstMove m_seens m_time m_waysNow m_fitting f hT m_at (by omega) _) (cwV 1 hts gX9_isSignHere_X9_sign rfl rfl rfl (by decide +kernel) ⟨Nat.le_of_ble_eq_true rfl, Nat.le_of_ble_eq_true rfl⟩) (by decide) 9 e16 rfl rfl hl.1 rfl (Nat.le_of_ble_eq_true rfl) dX9_isSignHere_13 ⟨Nat.le_of_ble_eq_true rfl, Nat.le_of_ble_eq_true rfl⟩ (fun r g H locs hw hP hD hS => ?_)
    obtain ⟨hrs, rfl⟩ := hw
    obtain ⟨x18, rfl⟩ : ∃ q, q = r := ⟨_, rfl⟩
    rcases hrs with ⟨h19, h20, h21⟩ | ⟨rfl, h22⟩
    · refine lv_iload_n hx hb dX9_isSignHere_16 rfl (lv_at hl 1 rfl) ?_
      refine lv_icmp_ne (tgt := 24) hx hb dX9_isSignHere_17 (by decide) (fun c23 => ?_) (fun c23 => ?_)
      · have kc23 := c_ne c23
        refine lv_iconst (v := 0) hx hb dX9_isSignHere_24 (by decide) ?_
        have ttl_0 := tl_0
        exact tI hx hb hr hlk rfl hP hS ⟨(Or.inr rfl), rfl⟩ dX9_isSignHere_25
      · have kc23 := c_eq c23
        refine lv_iconst (v := 1) hx hb dX9_isSignHere_20 (by decide) ?_
        refine lv_goto (tgt := 25) hx hb dX9_isSignHere_21 (by decide) ?_
        have ttl_1 := tl_1
        exact tI hx hb hr hlk rfl hP hS ⟨(Or.inl ⟨rfl, by omega, by omega⟩), rfl⟩ dX9_isSignHere_25
    · refine lv_iload_n hx hb dX9_isSignHere_16 rfl (lv_at hl 1 rfl) ?_
      have ttl_0 := tl_0
      refine lv_icmp_ne (tgt := 24) hx hb dX9_isSignHere_17 (by decide) (fun c24 => ?_) (fun c24 => ?_)
      · have kc24 := c_ne c24
        refine lv_iconst (v := 0) hx hb dX9_isSignHere_24 (by decide) ?_
        exact tI hx hb hr hlk rfl hP hS ⟨(Or.inr rfl), rfl⟩ dX9_isSignHere_25
      · have kc24 := c_eq c24
        exact absurd kc24 (by omega)
set_option maxHeartbeats 4000000 in
set_option maxRecDepth 100000 in
theorem s_X9_once_0 (l : Launch) (B0 : Nat) (adK adV : Nat → Nat) (D : va_G) (cy : Nat → ClassId) (ad : Nat → Nat) (fr0 : Nat → va_E) (c_text : Nat → Int32) (m_taped : Int32) (m_size : Int32) (m_faultKind : Int32) (m_faultPlace : Int32) (m_at : Int32) (m_end : Int32) (m_token : Int32) (m_number : Int32) (m_name : Int64) (c_points : Nat → Int32) (c_strands : Nat → Int32) (c_units : Nat → Int32) (c_told : Nat → Int32) (c_ruleFrom : Nat → Int32) (c_ruleTo : Nat → Int32) (c_code : Nat → Int32) (c_eWhat : Nat → Int32) (c_eSign : Nat → Int32) (m_bank : Int32) (m_rb : Int32) (m_codes : Int32) (m_within : Int32) (m_piled : Int32) (m_unitsInRule : Int32) (m_askStrand : Int32) (m_askTied : Int32) (m_thoughtClaim : Int32) (m_thoughtNeed : Int32) (m_thoughtAll : Int32) (c_roundOf : Nat → Int32) (m_acts : Int32) (m_undone : Int32) (m_laid : Int32) (m_firstMove : Int32) (m_seens : Int32) (m_time : Int32) (m_waysNow : Int32) (m_fitting : Int32) (f : Nat → va_E) (hT : TYm ad cy fr0 c_text m_taped m_size m_faultKind m_faultPlace m_at m_end m_token m_number m_name c_points c_strands c_units c_told c_ruleFrom c_ruleTo c_code c_eWhat c_eSign m_bank m_rb m_codes m_within m_piled m_unitsInRule m_askStrand m_askTied m_thoughtClaim m_thoughtNeed m_thoughtAll c_roundOf m_acts m_undone m_laid m_firstMove m_seens m_time m_waysNow m_fitting f) (p2 : Int32) (hp2 : 1 ≤ p2.toInt ∧ p2.toInt ≤ 100) (hph_m_end : 0 ≤ m_end.toInt ∧ m_end.toInt ≤ 1600) (hh0 : ((m_token.toInt = 0 ∧ m_at.toInt = m_size.toInt ∧ m_end.toInt = m_size.toInt) ∨ (1 ≤ m_token.toInt ∧ m_at.toInt < m_end.toInt ∧ m_end.toInt ≤ m_size.toInt))) (sz : Nat) : TtI l yX9_once wsX9_once 3 67 [.ref (ad 148), .int 1, .int p2] B0 adK adV D cy ad f sz (fun (r : Int32) (g : Nat → va_E) => True ∧ (∃ (m_faultKind' : Int32) (m_faultPlace' : Int32) (m_at' : Int32) (m_end' : Int32) (m_token' : Int32) (m_number' : Int32) (m_name' : Int64) (c_told' : Nat → Int32), TYm ad cy fr0 c_text m_taped m_size m_faultKind' m_faultPlace' m_at' m_end' m_token' m_number' m_name' c_points c_strands c_units c_told' c_ruleFrom c_ruleTo c_code c_eWhat c_eSign m_bank m_rb m_codes m_within m_piled m_unitsInRule m_askStrand m_askTied m_thoughtClaim m_thoughtNeed m_thoughtAll c_roundOf m_acts m_undone m_laid m_firstMove m_seens m_time m_waysNow m_fitting g ∧ (0 ≤ m_end'.toInt ∧ m_end'.toInt ≤ 1600) ∧ ((m_token'.toInt = 0 ∧ m_at'.toInt = m_size.toInt ∧ m_end'.toInt = m_size.toInt) ∨ (1 ≤ m_token'.toInt ∧ m_at'.toInt < m_end'.toInt ∧ m_end'.toInt ≤ m_size.toInt)) ∧ m_at.toInt ≤ m_at'.toInt ∧ (bitF (c_told' m_rb.toNatClampNeg) 0).toInt = (bitF (c_told m_rb.toNatClampNeg) 0).toInt ∧ Fr1 c_told c_told' m_rb)) := by
  refine TtI.of (cc := cX9_once) (maxL := 3) (ty := .int) (own := RX9) (by decide) rfl (Nat.le_of_ble_eq_true rfl) rfl ?_
  intro p e s m below meth c A ls hx hb hr hml hts hown hlk hK hE hP hD hS hA hAB hl
  have hl : lv_has ls 3 [(0, .ref (ad 148)), (1, .int 1), (2, .int p2)] := hl
  refine st0 (fun H locs hP hS => ?_) hP hS
  refine lv_aload_n hx hb dX9_once_0 rfl (lv_at hl 0 rfl) ?_
  obtain ⟨e16, h1, h2, h3, h4, h5, h6, h7, h8, h9, h10, h11, h12, h13, h14, h15⟩ := (show okX9 ad m_taped m_size m_faultKind m_faultPlace m_at m_end m_token m_number m_name m_bank m_rb m_codes m_within m_piled m_unitsInRule m_askStrand m_askTied m_thoughtClaim m_thoughtNeed m_thoughtAll m_acts m_undone m_laid m_firstMove m_seens m_time m_waysNow m_fitting 148 (f 148) from hT.1 148 (by decide))
  refine va_get (D := D) (cl := vwCl) (ci := 9) (v := .ref (ad 156)) (C := RX9) (T := TX9) (N := 64) hx hb hts in_X9_once_X9 hown hK hP 148 (wl_at (by decide) e16) rfl 16 (by decide) (hts (.fieldLink RX9 36 "EightReasonsModel" "told" "[I") (List.mem_of_getElem? (i := 1) rfl)) (fun _ h9 => h9) rfl dX9_once_1 ?_
  refine lv_aload_n hx hb dX9_once_4 rfl (lv_at hl 0 rfl) ?_
  refine va_get (D := D) (cl := vwCl) (ci := 9) (v := .int m_rb) (C := RX9) (T := TX9) (N := 64) hx hb hts in_X9_once_X9 hown hK hP 148 (wl_at (by decide) e16) rfl 30 (by decide) (hts (.fieldLink RX9 230 "EightReasonsModel" "rb" "I") (List.mem_of_getElem? (i := 2) rfl)) (fun _ h9 => h9) rfl dX9_once_5 ?_
  refine lv_dup2_11 hx hb dX9_once_8 rfl rfl ?_
  have e17 : f 156 = _ := (show okIp cy 2 c_told (f 156) from hT.1 156 (by decide))
  refine va_iald hx hb hK hP 156 0 (wl_at (by decide) e17) rfl (vp_in_iff.mpr ⟨by omega, by omega⟩) dX9_once_9 ?_
  refine lv_topi (fun x18 ex18 => ?_)
  have kx18 := congrArg Int32.toInt ex18
  refine lv_iconst (v := 1) hx hb dX9_once_10 (by decide) ?_
  refine lv_iload_n hx hb dX9_once_11 rfl (lv_at hl 1 rfl) ?_
  refine lv_ishl hx hb dX9_once_12 (tpi (v := 2) (by decide) ?_)
  refine lv_ior hx hb dX9_once_13 ?_
  refine lv_topi (fun x19 ex19 => ?_)
  refine va_iast hx hb hK hP hD hS 156 0 (wl_at (by decide) e17) rfl (vp_in_iff.mpr ⟨by omega, by omega⟩) dX9_once_14 (fun H locs hP hD hS => ?_)
  obtain ⟨c20, ec20⟩ : ∃ q, q = upd c_told (Int32.toNatClampNeg m_rb) x19 := ⟨_, rfl⟩
  rw [← ec20] at hP hD
  obtain ⟨f, hT, hP, hD, e21, hj22⟩ := stU (by decide) (TYm.p156 hT (show OKm ad cy c_text m_taped m_size m_faultKind m_faultPlace m_at m_end m_token m_number m_name c_points c_strands c_units c20 c_ruleFrom c_ruleTo c_code c_eWhat c_eSign m_bank m_rb m_codes m_within m_piled m_unitsInRule m_askStrand m_askTied m_thoughtClaim m_thoughtNeed m_thoughtAll c_roundOf m_acts m_undone m_laid m_firstMove m_seens m_time m_waysNow m_fitting 156 _ from (show okIp cy 2 c20 _ from rfl))) hP hD
  have e23 := (hj22 148 (by decide)).trans e16
  have hbo := once_bit (g := c_told) (g' := c20) (b := m_rb) (by assumption) (by assumption) (by assumption) (by decide)
  have hF_told := Fr1_up (g := c_told) (g' := c20) (by assumption)
  refine lv_aload_n hx hb dX9_once_15 rfl (lv_at hl 0 rfl) ?_
  refine lv_iconst (v := 0) hx hb dX9_once_16 (by decide) ?_
  refine lv_iload_n hx hb dX9_once_17 rfl (lv_at hl 2 rfl) ?_
  have ttl_0 := tl_0
  refine tVI (As := [.int 0, .int p2]) (rest := []) (i := 148) ⟨hx, hb, hml, hown, hts⟩ hK hE hP hD hS hA hAB (s_X9_numeral_0 l B0 adK adV D cy ad fr0 c_text m_taped m_size m_faultKind m_faultPlace m_at m_end m_token m_number m_name c_points c_strands c_units c20 c_ruleFrom c_ruleTo c_code c_eWhat c_eSign m_bank m_rb m_codes m_within m_piled m_unitsInRule m_askStrand m_askTied m_thoughtClaim m_thoughtNeed m_thoughtAll c_roundOf m_acts m_undone m_laid m_firstMove m_seens m_time m_waysNow m_fitting f hT (0 : Int32) (by omega) p2 (by omega) (by omega) (by omega) _) (cwV 2 hts gX9_once_X9_numeral rfl rfl rfl (by decide +kernel) ⟨Nat.le_of_ble_eq_true rfl, Nat.le_of_ble_eq_true rfl⟩) (by decide) 9 e23 rfl rfl hl.1 rfl (Nat.le_of_ble_eq_true rfl) dX9_once_18 ⟨Nat.le_of_ble_eq_true rfl, Nat.le_of_ble_eq_true rfl⟩ (fun r f H locs hw hP hD hS => ?_)
  obtain ⟨hrs, x24, x25, x26, x27, x28, x29, y30, hT, h31, h32, h33⟩ := hw
  obtain ⟨x34, rfl⟩ : ∃ q, q = r := ⟨_, rfl⟩
  have h35 := hrs
  exact tI hx hb hr hlk rfl hP hS ⟨trivial, ⟨x24, x25, x26, x27, x28, x29, y30, c20, hT, by omega, by omega, by omega, by omega, hF_told⟩⟩ dX9_once_21
set_option maxHeartbeats 4000000 in
set_option maxRecDepth 100000 in
theorem s_X9_once_1 (l : Launch) (B0 : Nat) (adK adV : Nat → Nat) (D : va_G) (cy : Nat → ClassId) (ad : Nat → Nat) (fr0 : Nat → va_E) (c_text : Nat → Int32) (m_taped : Int32) (m_size : Int32) (m_faultKind : Int32) (m_faultPlace : Int32) (m_at : Int32) (m_end : Int32) (m_token : Int32) (m_number : Int32) (m_name : Int64) (c_points : Nat → Int32) (c_strands : Nat → Int32) (c_units : Nat → Int32) (c_told : Nat → Int32) (c_ruleFrom : Nat → Int32) (c_ruleTo : Nat → Int32) (c_code : Nat → Int32) (c_eWhat : Nat → Int32) (c_eSign : Nat → Int32) (m_bank : Int32) (m_rb : Int32) (m_codes : Int32) (m_within : Int32) (m_piled : Int32) (m_unitsInRule : Int32) (m_askStrand : Int32) (m_askTied : Int32) (m_thoughtClaim : Int32) (m_thoughtNeed : Int32) (m_thoughtAll : Int32) (c_roundOf : Nat → Int32) (m_acts : Int32) (m_undone : Int32) (m_laid : Int32) (m_firstMove : Int32) (m_seens : Int32) (m_time : Int32) (m_waysNow : Int32) (m_fitting : Int32) (f : Nat → va_E) (hT : TYm ad cy fr0 c_text m_taped m_size m_faultKind m_faultPlace m_at m_end m_token m_number m_name c_points c_strands c_units c_told c_ruleFrom c_ruleTo c_code c_eWhat c_eSign m_bank m_rb m_codes m_within m_piled m_unitsInRule m_askStrand m_askTied m_thoughtClaim m_thoughtNeed m_thoughtAll c_roundOf m_acts m_undone m_laid m_firstMove m_seens m_time m_waysNow m_fitting f) (p2 : Int32) (hp2 : 1 ≤ p2.toInt ∧ p2.toInt ≤ 999) (hph_m_end : 0 ≤ m_end.toInt ∧ m_end.toInt ≤ 1600) (hh0 : ((m_token.toInt = 0 ∧ m_at.toInt = m_size.toInt ∧ m_end.toInt = m_size.toInt) ∨ (1 ≤ m_token.toInt ∧ m_at.toInt < m_end.toInt ∧ m_end.toInt ≤ m_size.toInt))) (sz : Nat) : TtI l yX9_once wsX9_once 3 67 [.ref (ad 148), .int 2, .int p2] B0 adK adV D cy ad f sz (fun (r : Int32) (g : Nat → va_E) => True ∧ (∃ (m_faultKind' : Int32) (m_faultPlace' : Int32) (m_at' : Int32) (m_end' : Int32) (m_token' : Int32) (m_number' : Int32) (m_name' : Int64) (c_told' : Nat → Int32), TYm ad cy fr0 c_text m_taped m_size m_faultKind' m_faultPlace' m_at' m_end' m_token' m_number' m_name' c_points c_strands c_units c_told' c_ruleFrom c_ruleTo c_code c_eWhat c_eSign m_bank m_rb m_codes m_within m_piled m_unitsInRule m_askStrand m_askTied m_thoughtClaim m_thoughtNeed m_thoughtAll c_roundOf m_acts m_undone m_laid m_firstMove m_seens m_time m_waysNow m_fitting g ∧ (0 ≤ m_end'.toInt ∧ m_end'.toInt ≤ 1600) ∧ ((m_token'.toInt = 0 ∧ m_at'.toInt = m_size.toInt ∧ m_end'.toInt = m_size.toInt) ∨ (1 ≤ m_token'.toInt ∧ m_at'.toInt < m_end'.toInt ∧ m_end'.toInt ≤ m_size.toInt)) ∧ m_at.toInt ≤ m_at'.toInt ∧ (bitF (c_told' m_rb.toNatClampNeg) 0).toInt = (bitF (c_told m_rb.toNatClampNeg) 0).toInt ∧ Fr1 c_told c_told' m_rb)) := by
  refine TtI.of (cc := cX9_once) (maxL := 3) (ty := .int) (own := RX9) (by decide) rfl (Nat.le_of_ble_eq_true rfl) rfl ?_
  intro p e s m below meth c A ls hx hb hr hml hts hown hlk hK hE hP hD hS hA hAB hl
  have hl : lv_has ls 3 [(0, .ref (ad 148)), (1, .int 2), (2, .int p2)] := hl
  refine st0 (fun H locs hP hS => ?_) hP hS
  refine lv_aload_n hx hb dX9_once_0 rfl (lv_at hl 0 rfl) ?_
  obtain ⟨e16, h1, h2, h3, h4, h5, h6, h7, h8, h9, h10, h11, h12, h13, h14, h15⟩ := (show okX9 ad m_taped m_size m_faultKind m_faultPlace m_at m_end m_token m_number m_name m_bank m_rb m_codes m_within m_piled m_unitsInRule m_askStrand m_askTied m_thoughtClaim m_thoughtNeed m_thoughtAll m_acts m_undone m_laid m_firstMove m_seens m_time m_waysNow m_fitting 148 (f 148) from hT.1 148 (by decide))
  refine va_get (D := D) (cl := vwCl) (ci := 9) (v := .ref (ad 156)) (C := RX9) (T := TX9) (N := 64) hx hb hts in_X9_once_X9 hown hK hP 148 (wl_at (by decide) e16) rfl 16 (by decide) (hts (.fieldLink RX9 36 "EightReasonsModel" "told" "[I") (List.mem_of_getElem? (i := 1) rfl)) (fun _ h9 => h9) rfl dX9_once_1 ?_
  refine lv_aload_n hx hb dX9_once_4 rfl (lv_at hl 0 rfl) ?_
  refine va_get (D := D) (cl := vwCl) (ci := 9) (v := .int m_rb) (C := RX9) (T := TX9) (N := 64) hx hb hts in_X9_once_X9 hown hK hP 148 (wl_at (by decide) e16) rfl 30 (by decide) (hts (.fieldLink RX9 230 "EightReasonsModel" "rb" "I") (List.mem_of_getElem? (i := 2) rfl)) (fun _ h9 => h9) rfl dX9_once_5 ?_
  refine lv_dup2_11 hx hb dX9_once_8 rfl rfl ?_
  have e17 : f 156 = _ := (show okIp cy 2 c_told (f 156) from hT.1 156 (by decide))
  refine va_iald hx hb hK hP 156 0 (wl_at (by decide) e17) rfl (vp_in_iff.mpr ⟨by omega, by omega⟩) dX9_once_9 ?_
  refine lv_topi (fun x18 ex18 => ?_)
  have kx18 := congrArg Int32.toInt ex18
  refine lv_iconst (v := 1) hx hb dX9_once_10 (by decide) ?_
  refine lv_iload_n hx hb dX9_once_11 rfl (lv_at hl 1 rfl) ?_
  refine lv_ishl hx hb dX9_once_12 (tpi (v := 4) (by decide) ?_)
  refine lv_ior hx hb dX9_once_13 ?_
  refine lv_topi (fun x19 ex19 => ?_)
  refine va_iast hx hb hK hP hD hS 156 0 (wl_at (by decide) e17) rfl (vp_in_iff.mpr ⟨by omega, by omega⟩) dX9_once_14 (fun H locs hP hD hS => ?_)
  obtain ⟨c20, ec20⟩ : ∃ q, q = upd c_told (Int32.toNatClampNeg m_rb) x19 := ⟨_, rfl⟩
  rw [← ec20] at hP hD
  obtain ⟨f, hT, hP, hD, e21, hj22⟩ := stU (by decide) (TYm.p156 hT (show OKm ad cy c_text m_taped m_size m_faultKind m_faultPlace m_at m_end m_token m_number m_name c_points c_strands c_units c20 c_ruleFrom c_ruleTo c_code c_eWhat c_eSign m_bank m_rb m_codes m_within m_piled m_unitsInRule m_askStrand m_askTied m_thoughtClaim m_thoughtNeed m_thoughtAll c_roundOf m_acts m_undone m_laid m_firstMove m_seens m_time m_waysNow m_fitting 156 _ from (show okIp cy 2 c20 _ from rfl))) hP hD
  have e23 := (hj22 148 (by decide)).trans e16
  have hbo := once_bit (g := c_told) (g' := c20) (b := m_rb) (by assumption) (by assumption) (by assumption) (by decide)
  have hF_told := Fr1_up (g := c_told) (g' := c20) (by assumption)
  refine lv_aload_n hx hb dX9_once_15 rfl (lv_at hl 0 rfl) ?_
  refine lv_iconst (v := 0) hx hb dX9_once_16 (by decide) ?_
  refine lv_iload_n hx hb dX9_once_17 rfl (lv_at hl 2 rfl) ?_
  have ttl_0 := tl_0
  refine tVI (As := [.int 0, .int p2]) (rest := []) (i := 148) ⟨hx, hb, hml, hown, hts⟩ hK hE hP hD hS hA hAB (s_X9_numeral_0 l B0 adK adV D cy ad fr0 c_text m_taped m_size m_faultKind m_faultPlace m_at m_end m_token m_number m_name c_points c_strands c_units c20 c_ruleFrom c_ruleTo c_code c_eWhat c_eSign m_bank m_rb m_codes m_within m_piled m_unitsInRule m_askStrand m_askTied m_thoughtClaim m_thoughtNeed m_thoughtAll c_roundOf m_acts m_undone m_laid m_firstMove m_seens m_time m_waysNow m_fitting f hT (0 : Int32) (by omega) p2 (by omega) (by omega) (by omega) _) (cwV 2 hts gX9_once_X9_numeral rfl rfl rfl (by decide +kernel) ⟨Nat.le_of_ble_eq_true rfl, Nat.le_of_ble_eq_true rfl⟩) (by decide) 9 e23 rfl rfl hl.1 rfl (Nat.le_of_ble_eq_true rfl) dX9_once_18 ⟨Nat.le_of_ble_eq_true rfl, Nat.le_of_ble_eq_true rfl⟩ (fun r f H locs hw hP hD hS => ?_)
  obtain ⟨hrs, x24, x25, x26, x27, x28, x29, y30, hT, h31, h32, h33⟩ := hw
  obtain ⟨x34, rfl⟩ : ∃ q, q = r := ⟨_, rfl⟩
  have h35 := hrs
  exact tI hx hb hr hlk rfl hP hS ⟨trivial, ⟨x24, x25, x26, x27, x28, x29, y30, c20, hT, by omega, by omega, by omega, by omega, hF_told⟩⟩ dX9_once_21
set_option maxHeartbeats 4000000 in
set_option maxRecDepth 100000 in
theorem s_X9_emit_0 (l : Launch) (B0 : Nat) (adK adV : Nat → Nat) (D : va_G) (cy : Nat → ClassId) (ad : Nat → Nat) (fr0 : Nat → va_E) (c_text : Nat → Int32) (m_taped : Int32) (m_size : Int32) (m_faultKind : Int32) (m_faultPlace : Int32) (m_at : Int32) (m_end : Int32) (m_token : Int32) (m_number : Int32) (m_name : Int64) (c_points : Nat → Int32) (c_strands : Nat → Int32) (c_units : Nat → Int32) (c_told : Nat → Int32) (c_ruleFrom : Nat → Int32) (c_ruleTo : Nat → Int32) (c_code : Nat → Int32) (c_eWhat : Nat → Int32) (c_eSign : Nat → Int32) (m_bank : Int32) (m_rb : Int32) (m_codes : Int32) (m_within : Int32) (m_piled : Int32) (m_unitsInRule : Int32) (m_askStrand : Int32) (m_askTied : Int32) (m_thoughtClaim : Int32) (m_thoughtNeed : Int32) (m_thoughtAll : Int32) (c_roundOf : Nat → Int32) (m_acts : Int32) (m_undone : Int32) (m_laid : Int32) (m_firstMove : Int32) (m_seens : Int32) (m_time : Int32) (m_waysNow : Int32) (m_fitting : Int32) (f : Nat → va_E) (hT : TYm ad cy fr0 c_text m_taped m_size m_faultKind m_faultPlace m_at m_end m_token m_number m_name c_points c_strands c_units c_told c_ruleFrom c_ruleTo c_code c_eWhat c_eSign m_bank m_rb m_codes m_within m_piled m_unitsInRule m_askStrand m_askTied m_thoughtClaim m_thoughtNeed m_thoughtAll c_roundOf m_acts m_undone m_laid m_firstMove m_seens m_time m_waysNow m_fitting f) (p1 : Int32) (p2 : Int32) (hph_m_codes : 0 ≤ m_codes.toInt ∧ m_codes.toInt ≤ 1119) (sz : Nat) : TtV l yX9_emit wsX9_emit 0 0 [.ref (ad 148), .int p1, .int p2] B0 adK adV D cy ad f sz (fun (g : Nat → va_E) => True ∧ (∃ (c_code' : Nat → Int32) (m_codes' : Int32), TYm ad cy fr0 c_text m_taped m_size m_faultKind m_faultPlace m_at m_end m_token m_number m_name c_points c_strands c_units c_told c_ruleFrom c_ruleTo c_code' c_eWhat c_eSign m_bank m_rb m_codes' m_within m_piled m_unitsInRule m_askStrand m_askTied m_thoughtClaim m_thoughtNeed m_thoughtAll c_roundOf m_acts m_undone m_laid m_firstMove m_seens m_time m_waysNow m_fitting g ∧ (1 ≤ m_codes'.toInt ∧ m_codes'.toInt ≤ 1120) ∧ m_codes'.toInt = m_codes.toInt + 1 ∧ c_code' = upd c_code m_codes.toNatClampNeg p1)) := by
  refine TtV.of (cc := cX9_emit) (maxL := 3) (own := RX9) (by decide) rfl (Nat.le_of_ble_eq_true rfl) rfl ?_
  intro p e s m below meth c A ls hx hb hr hml hts hown hlk hK hE hP hD hS hA hAB hl
  have hl : lv_has ls 3 [(0, .ref (ad 148)), (1, .int p1), (2, .int p2)] := hl
  refine st0 (fun H locs hP hS => ?_) hP hS
  refine lv_aload_n hx hb dX9_emit_0 rfl (lv_at hl 0 rfl) ?_
  obtain ⟨e16, h1, h2, h3, h4, h5, h6, h7, h8, h9, h10, h11, h12, h13, h14, h15⟩ := (show okX9 ad m_taped m_size m_faultKind m_faultPlace m_at m_end m_token m_number m_name m_bank m_rb m_codes m_within m_piled m_unitsInRule m_askStrand m_askTied m_thoughtClaim m_thoughtNeed m_thoughtAll m_acts m_undone m_laid m_firstMove m_seens m_time m_waysNow m_fitting 148 (f 148) from hT.1 148 (by decide))
  refine va_get (D := D) (cl := vwCl) (ci := 9) (v := .ref (ad 164)) (C := RX9) (T := TX9) (N := 64) hx hb hts in_X9_emit_X9 hown hK hP 148 (wl_at (by decide) e16) rfl 24 (by decide) (hts (.fieldLink RX9 61 "EightReasonsModel" "code" "[I") (List.mem_of_getElem? (i := 1) rfl)) (fun _ h9 => h9) rfl dX9_emit_1 ?_
  refine lv_aload_n hx hb dX9_emit_4 rfl (lv_at hl 0 rfl) ?_
  refine va_get (D := D) (cl := vwCl) (ci := 9) (v := .int m_codes) (C := RX9) (T := TX9) (N := 64) hx hb hts in_X9_emit_X9 hown hK hP 148 (wl_at (by decide) e16) rfl 31 (by decide) (hts (.fieldLink RX9 233 "EightReasonsModel" "codes" "I") (List.mem_of_getElem? (i := 2) rfl)) (fun _ h9 => h9) rfl dX9_emit_5 ?_
  refine lv_iload_n hx hb dX9_emit_8 rfl (lv_at hl 1 rfl) ?_
  have e17 : f 164 = _ := (show okIp cy 1120 c_code (f 164) from hT.1 164 (by decide))
  refine va_iast hx hb hK hP hD hS 164 0 (wl_at (by decide) e17) rfl (vp_in_iff.mpr ⟨by omega, by omega⟩) dX9_emit_9 (fun H locs hP hD hS => ?_)
  obtain ⟨c18, ec18⟩ : ∃ q, q = upd c_code (Int32.toNatClampNeg m_codes) p1 := ⟨_, rfl⟩
  rw [← ec18] at hP hD
  obtain ⟨f, hT, hP, hD, e19, hj20⟩ := stU (by decide) (TYm.p164 hT (show OKm ad cy c_text m_taped m_size m_faultKind m_faultPlace m_at m_end m_token m_number m_name c_points c_strands c_units c_told c_ruleFrom c_ruleTo c18 c_eWhat c_eSign m_bank m_rb m_codes m_within m_piled m_unitsInRule m_askStrand m_askTied m_thoughtClaim m_thoughtNeed m_thoughtAll c_roundOf m_acts m_undone m_laid m_firstMove m_seens m_time m_waysNow m_fitting 164 _ from (show okIp cy 1120 c18 _ from rfl))) hP hD
  have e21 := (hj20 148 (by decide)).trans e16
  refine lv_aload_n hx hb dX9_emit_10 rfl (lv_at hl 0 rfl) ?_
  refine va_get (D := D) (cl := vwCl) (ci := 9) (v := .ref (ad 165)) (C := RX9) (T := TX9) (N := 64) hx hb hts in_X9_emit_X9 hown hK hP 148 (wl_at (by decide) e21) rfl 25 (by decide) (hts (.fieldLink RX9 64 "EightReasonsModel" "codeNumber" "[I") (List.mem_of_getElem? (i := 3) rfl)) (fun _ h9 => h9) rfl dX9_emit_11 ?_
  refine lv_aload_n hx hb dX9_emit_14 rfl (lv_at hl 0 rfl) ?_
  refine va_get (D := D) (cl := vwCl) (ci := 9) (v := .int m_codes) (C := RX9) (T := TX9) (N := 64) hx hb hts in_X9_emit_X9 hown hK hP 148 (wl_at (by decide) e21) rfl 31 (by decide) (hts (.fieldLink RX9 233 "EightReasonsModel" "codes" "I") (List.mem_of_getElem? (i := 2) rfl)) (fun _ h9 => h9) rfl dX9_emit_15 ?_
  refine lv_iload_n hx hb dX9_emit_18 rfl (lv_at hl 2 rfl) ?_
  obtain ⟨g23, e22⟩ := (show okI cy 1120 (f 165) from hT.1 165 (by decide))
  refine va_iast hx hb hK hP hD hS 165 0 (wl_at (by decide) e22) rfl (vp_in_iff.mpr ⟨by omega, by omega⟩) dX9_emit_19 (fun H locs hP hD hS => ?_)
  obtain ⟨f, hT, hP, hD, e24, hj25⟩ := stU (by decide) (TYm.up hT (by decide) (show OKm ad cy c_text m_taped m_size m_faultKind m_faultPlace m_at m_end m_token m_number m_name c_points c_strands c_units c_told c_ruleFrom c_ruleTo c18 c_eWhat c_eSign m_bank m_rb m_codes m_within m_piled m_unitsInRule m_askStrand m_askTied m_thoughtClaim m_thoughtNeed m_thoughtAll c_roundOf m_acts m_undone m_laid m_firstMove m_seens m_time m_waysNow m_fitting 165 _ from (show okI cy 1120 _ from ⟨_, rfl⟩))) hP hD
  have e26 := (hj25 148 (by decide)).trans e21
  refine lv_aload_n hx hb dX9_emit_20 rfl (lv_at hl 0 rfl) ?_
  refine lv_dup hx hb dX9_emit_21 rfl ?_
  refine va_get (D := D) (cl := vwCl) (ci := 9) (v := .int m_codes) (C := RX9) (T := TX9) (N := 64) hx hb hts in_X9_emit_X9 hown hK hP 148 (wl_at (by decide) e26) rfl 31 (by decide) (hts (.fieldLink RX9 233 "EightReasonsModel" "codes" "I") (List.mem_of_getElem? (i := 2) rfl)) (fun _ h9 => h9) rfl dX9_emit_22 ?_
  refine lv_iconst (v := 1) hx hb dX9_emit_25 (by decide) ?_
  have ttl_1 := tl_1
  refine lv_iadd hx hb dX9_emit_26 ?_
  refine lv_topi (fun x27 ex27 => ?_)
  have hx27 := r_add ex27 (by omega) (by omega)
  refine va_put (D := D) (cl := vwCl) (ci := 9) (v := .int x27) (ty := tyX9 31) (C := RX9) (T := TX9) (N := 64) hx hb hts in_X9_emit_X9 tyX9 tyX9_ok nmX9 hown hK hP hD hS 148 (wl_at (by decide) e26) rfl 31 (by decide) (hts (.fieldLink RX9 233 "EightReasonsModel" "codes" "I") (List.mem_of_getElem? (i := 2) rfl)) (fun _ h9 => h9) rfl (tyX9_ok 31 (by decide)) rfl rfl (Nat.le_of_ble_eq_true rfl) dX9_emit_27 (fun H locs hP hD hS => ?_)
  obtain ⟨f, hT, hP, hD, e28, hj29⟩ := stU (by decide) (TYm.p148 hT (show OKm ad cy c_text m_taped m_size m_faultKind m_faultPlace m_at m_end m_token m_number m_name c_points c_strands c_units c_told c_ruleFrom c_ruleTo c18 c_eWhat c_eSign m_bank m_rb x27 m_within m_piled m_unitsInRule m_askStrand m_askTied m_thoughtClaim m_thoughtNeed m_thoughtAll c_roundOf m_acts m_undone m_laid m_firstMove m_seens m_time m_waysNow m_fitting 148 _ from (show okX9 ad m_taped m_size m_faultKind m_faultPlace m_at m_end m_token m_number m_name m_bank m_rb x27 m_within m_piled m_unitsInRule m_askStrand m_askTied m_thoughtClaim m_thoughtNeed m_thoughtAll m_acts m_undone m_laid m_firstMove m_seens m_time m_waysNow m_fitting 148 _ from ⟨rfl, by omega, by omega, by omega, by omega, by omega, by omega, by omega, by omega, by omega, by omega, by omega, by omega, by omega, by omega, by omega⟩))) hP hD
  exact tV hx hb hr hlk hP hS ⟨trivial, ⟨c18, x27, hT, by omega, by omega, ec18⟩⟩ dX9_emit_30
set_option maxHeartbeats 4000000 in
set_option maxRecDepth 100000 in
theorem s_X9_isCompared_0 (l : Launch) (B0 : Nat) (adK adV : Nat → Nat) (D : va_G) (cy : Nat → ClassId) (ad : Nat → Nat) (fr0 : Nat → va_E) (c_text : Nat → Int32) (m_taped : Int32) (m_size : Int32) (m_faultKind : Int32) (m_faultPlace : Int32) (m_at : Int32) (m_end : Int32) (m_token : Int32) (m_number : Int32) (m_name : Int64) (c_points : Nat → Int32) (c_strands : Nat → Int32) (c_units : Nat → Int32) (c_told : Nat → Int32) (c_ruleFrom : Nat → Int32) (c_ruleTo : Nat → Int32) (c_code : Nat → Int32) (c_eWhat : Nat → Int32) (c_eSign : Nat → Int32) (m_bank : Int32) (m_rb : Int32) (m_codes : Int32) (m_within : Int32) (m_piled : Int32) (m_unitsInRule : Int32) (m_askStrand : Int32) (m_askTied : Int32) (m_thoughtClaim : Int32) (m_thoughtNeed : Int32) (m_thoughtAll : Int32) (c_roundOf : Nat → Int32) (m_acts : Int32) (m_undone : Int32) (m_laid : Int32) (m_firstMove : Int32) (m_seens : Int32) (m_time : Int32) (m_waysNow : Int32) (m_fitting : Int32) (f : Nat → va_E) (hT : TYm ad cy fr0 c_text m_taped m_size m_faultKind m_faultPlace m_at m_end m_token m_number m_name c_points c_strands c_units c_told c_ruleFrom c_ruleTo c_code c_eWhat c_eSign m_bank m_rb m_codes m_within m_piled m_unitsInRule m_askStrand m_askTied m_thoughtClaim m_thoughtNeed m_thoughtAll c_roundOf m_acts m_undone m_laid m_firstMove m_seens m_time m_waysNow m_fitting f) (hSG : SGp c_eWhat c_eSign m_piled.toInt) (hh1 : 1 ≤ m_piled.toInt) (sz : Nat) : TtI l yX9_isCompared wsX9_isCompared 0 0 [.ref (ad 148)] B0 adK adV D cy ad f sz (fun (r : Int32) (g : Nat → va_E) => ((r = 1) ∨ (r = 0)) ∧ (f = g)) := by
  refine TtI.of (cc := cX9_isCompared) (maxL := 2) (ty := .boolean) (own := RX9) (by decide) rfl (Nat.le_of_ble_eq_true rfl) rfl ?_
  intro p e s m below meth c A ls hx hb hr hml hts hown hlk hK hE hP hD hS hA hAB hl
  have hl : lv_has ls 2 [(0, .ref (ad 148))] := hl
  refine st0 (fun H locs hP hS => ?_) hP hS
  have j7 : ∀ (N : Nat) (H : Heap) (locs : List Loc) (ls : Array Slot) (v7_l1 : Int32), (v7_l1.toInt + 1 ≤ (N : Int)) → (-1 ≤ v7_l1.toInt ∧ v7_l1.toInt ≤ 89) → (0 ≤ v7_l1.toInt ∧ v7_l1.toInt < m_piled.toInt) → (va_P D vwCl (wl ad f) H) → (va_D A (wl ad f)) → (va_S A s.heap H locs) → (lv_has ls 2 [(1, .int v7_l1), (0, .ref (ad 148))]) → W p l e (rmO 0 0 0 0) s m ([.ref (ad 148)] : List Value).toArray below meth c H locs 0 0 (MQ below (va_Qi (fun (r : Int32) (g : Nat → va_E) => ((r = 1) ∨ (r = 0)) ∧ (f = g)) (fun g t => PstT D ad g t) A) ([.ref (ad 148)] : List Value).toArray s 0 0 A) (F0 m 7 ls []) := by
    intro N
    induction N with
    | zero => intro H locs ls v7_l1 hN hv7_l1 hJ7_0 hP hD hS hl; exact absurd hN (by omega)
    | succ N ih7 =>
      intro H locs ls v7_l1 hN hv7_l1 hJ7_0 hP hD hS hl
      have j28 : ∀ (H : Heap) (locs : List Loc) (ls : Array Slot), (0 ≤ v7_l1.toInt ∧ v7_l1.toInt ≤ 89) → (1 ≤ v7_l1.toInt ∧ v7_l1.toInt < m_piled.toInt) → (va_P D vwCl (wl ad f) H) → (va_D A (wl ad f)) → (va_S A s.heap H locs) → (lv_has ls 2 [(1, .int v7_l1), (0, .ref (ad 148))]) → W p l e (rmO 0 0 0 0) s m ([.ref (ad 148)] : List Value).toArray below meth c H locs 0 0 (MQ below (va_Qi (fun (r : Int32) (g : Nat → va_E) => ((r = 1) ∨ (r = 0)) ∧ (f = g)) (fun g t => PstT D ad g t) A) ([.ref (ad 148)] : List Value).toArray s 0 0 A) (F0 m 28 ls []) := by
        intro H locs ls hv28_l1 hJ28_0 hP hD hS hl
        have ha1 : 1 ≤ v7_l1.toInt ∧ v7_l1.toInt ≤ 90 := by omega
        obtain ⟨x2, ex2⟩ : ∃ q : Int32, q = v7_l1 + Int32.ofInt (-1) := ⟨_, rfl⟩
        refine lv_iinc (v := x2) (lv' := [(1, .int x2), (0, .ref (ad 148))]) hx hb dX9_isCompared_28 hl (k := 0) rfl ex2.symm (by decide) rfl (fun ls hl => ?_)
        have hx2 := r_inc ex2 (by decide) (by omega) (by omega)
        refine lv_goto (tgt := 7) hx hb dX9_isCompared_31 (by decide) ?_
        obtain ⟨e18, h3, h4, h5, h6, h7, h8, h9, h10, h11, h12, h13, h14, h15, h16, h17⟩ := (show okX9 ad m_taped m_size m_faultKind m_faultPlace m_at m_end m_token m_number m_name m_bank m_rb m_codes m_within m_piled m_unitsInRule m_askStrand m_askTied m_thoughtClaim m_thoughtNeed m_thoughtAll m_acts m_undone m_laid m_firstMove m_seens m_time m_waysNow m_fitting 148 (f 148) from hT.1 148 (by decide))
        exact ih7 H locs ls x2 (by omega) (by omega) (by omega) hP hD hS (lv_sub hl [0, 1] rfl)
      refine lv_aload_n hx hb dX9_isCompared_7 rfl (lv_at hl 1 rfl) ?_
      obtain ⟨e34, h19, h20, h21, h22, h23, h24, h25, h26, h27, h28, h29, h30, h31, h32, h33⟩ := (show okX9 ad m_taped m_size m_faultKind m_faultPlace m_at m_end m_token m_number m_name m_bank m_rb m_codes m_within m_piled m_unitsInRule m_askStrand m_askTied m_thoughtClaim m_thoughtNeed m_thoughtAll m_acts m_undone m_laid m_firstMove m_seens m_time m_waysNow m_fitting 148 (f 148) from hT.1 148 (by decide))
      refine va_get (D := D) (cl := vwCl) (ci := 9) (v := .ref (ad 166)) (C := RX9) (T := TX9) (N := 64) hx hb hts in_X9_isCompared_X9 hown hK hP 148 (wl_at (by decide) e34) rfl 26 (by decide) (hts (.fieldLink RX9 67 "EightReasonsModel" "eWhat" "[I") (List.mem_of_getElem? (i := 2) rfl)) (fun _ h9 => h9) rfl dX9_isCompared_8 ?_
      refine lv_iload_n hx hb dX9_isCompared_11 rfl (lv_at hl 0 rfl) ?_
      have ha35 : 0 ≤ v7_l1.toInt ∧ v7_l1.toInt ≤ 89 := by omega
      have e36 : f 166 = _ := (show okIp cy 90 c_eWhat (f 166) from hT.1 166 (by decide))
      refine va_iald hx hb hK hP 166 0 (wl_at (by decide) e36) rfl (vp_in_iff.mpr ⟨by omega, by omega⟩) dX9_isCompared_12 ?_
      refine lv_topi (fun x37 ex37 => ?_)
      have kx37 := congrArg Int32.toInt ex37
      have hsa13 := SG_at2 (x := x37) hSG (by assumption) (by omega) (by omega)
      refine lv_iconst (v := 5) hx hb dX9_isCompared_13 (by decide) ?_
      have ttl_5 := tl_5
      refine lv_icmp_eq (tgt := 28) hx hb dX9_isCompared_14 (by decide) (fun c38 => ?_) (fun c38 => ?_)
      · have kc38 := c_eq c38
        exact j28 H locs ls (by omega) (by omega) hP hD hS (lv_sub hl [0, 1] rfl)
      · have kc38 := c_ne c38
        refine lv_aload_n hx hb dX9_isCompared_17 rfl (lv_at hl 1 rfl) ?_
        refine va_get (D := D) (cl := vwCl) (ci := 9) (v := .ref (ad 166)) (C := RX9) (T := TX9) (N := 64) hx hb hts in_X9_isCompared_X9 hown hK hP 148 (wl_at (by decide) e34) rfl 26 (by decide) (hts (.fieldLink RX9 67 "EightReasonsModel" "eWhat" "[I") (List.mem_of_getElem? (i := 2) rfl)) (fun _ h9 => h9) rfl dX9_isCompared_18 ?_
        refine lv_iload_n hx hb dX9_isCompared_21 rfl (lv_at hl 0 rfl) ?_
        have ha39 : 0 ≤ v7_l1.toInt ∧ v7_l1.toInt ≤ 89 := by omega
        refine va_iald hx hb hK hP 166 0 (wl_at (by decide) e36) rfl (vp_in_iff.mpr ⟨by omega, by omega⟩) dX9_isCompared_22 ?_
        refine lv_topi (fun x40 ex40 => ?_)
        have kx40 := congrArg Int32.toInt ex40
        have hsa23 := SG_at2 (x := x40) hSG (by assumption) (by omega) (by omega)
        refine lv_bipush (v := 6) hx hb dX9_isCompared_23 (by decide) ?_
        have ttl_6 := tl_6
        refine lv_icmp_ne (tgt := 34) hx hb dX9_isCompared_25 (by decide) (fun c41 => ?_) (fun c41 => ?_)
        · have kc41 := c_ne c41
          refine lv_aload_n hx hb dX9_isCompared_34 rfl (lv_at hl 1 rfl) ?_
          refine va_get (D := D) (cl := vwCl) (ci := 9) (v := .ref (ad 166)) (C := RX9) (T := TX9) (N := 64) hx hb hts in_X9_isCompared_X9 hown hK hP 148 (wl_at (by decide) e34) rfl 26 (by decide) (hts (.fieldLink RX9 67 "EightReasonsModel" "eWhat" "[I") (List.mem_of_getElem? (i := 2) rfl)) (fun _ h9 => h9) rfl dX9_isCompared_35 ?_
          refine lv_iload_n hx hb dX9_isCompared_38 rfl (lv_at hl 0 rfl) ?_
          have ha42 : 0 ≤ v7_l1.toInt ∧ v7_l1.toInt ≤ 89 := by omega
          refine va_iald hx hb hK hP 166 0 (wl_at (by decide) e36) rfl (vp_in_iff.mpr ⟨by omega, by omega⟩) dX9_isCompared_39 ?_
          refine lv_topi (fun x43 ex43 => ?_)
          have kx43 := congrArg Int32.toInt ex43
          have hsa40 := SG_at2 (x := x43) hSG (by assumption) (by omega) (by omega)
          refine lv_iconst (v := 4) hx hb dX9_isCompared_40 (by decide) ?_
          have ttl_4 := tl_4
          refine lv_icmp_ne (tgt := 48) hx hb dX9_isCompared_41 (by decide) (fun c44 => ?_) (fun c44 => ?_)
          · have kc44 := c_ne c44
            refine lv_iconst (v := 0) hx hb dX9_isCompared_48 (by decide) ?_
            have ttl_0 := tl_0
            exact tI hx hb hr hlk rfl hP hS ⟨(Or.inr rfl), rfl⟩ dX9_isCompared_49
          · have kc44 := c_eq c44
            refine lv_iconst (v := 1) hx hb dX9_isCompared_44 (by decide) ?_
            refine lv_goto (tgt := 49) hx hb dX9_isCompared_45 (by decide) ?_
            have ttl_1 := tl_1
            exact tI hx hb hr hlk rfl hP hS ⟨(Or.inl rfl), rfl⟩ dX9_isCompared_49
        · have kc41 := c_eq c41
          exact j28 H locs ls (by omega) (by omega) hP hD hS (lv_sub hl [0, 1] rfl)
  refine lv_aload_n hx hb dX9_isCompared_0 rfl (lv_at hl 0 rfl) ?_
  obtain ⟨e60, h45, h46, h47, h48, h49, h50, h51, h52, h53, h54, h55, h56, h57, h58, h59⟩ := (show okX9 ad m_taped m_size m_faultKind m_faultPlace m_at m_end m_token m_number m_name m_bank m_rb m_codes m_within m_piled m_unitsInRule m_askStrand m_askTied m_thoughtClaim m_thoughtNeed m_thoughtAll m_acts m_undone m_laid m_firstMove m_seens m_time m_waysNow m_fitting 148 (f 148) from hT.1 148 (by decide))
  refine va_get (D := D) (cl := vwCl) (ci := 9) (v := .int m_piled) (C := RX9) (T := TX9) (N := 64) hx hb hts in_X9_isCompared_X9 hown hK hP 148 (wl_at (by decide) e60) rfl 33 (by decide) (hts (.fieldLink RX9 285 "EightReasonsModel" "piled" "I") (List.mem_of_getElem? (i := 1) rfl)) (fun _ h9 => h9) rfl dX9_isCompared_1 ?_
  refine lv_iconst (v := 1) hx hb dX9_isCompared_4 (by decide) ?_
  have ttl_1 := tl_1
  refine lv_isub hx hb dX9_isCompared_5 ?_
  refine lv_topi (fun x61 ex61 => ?_)
  have hx61 := r_sub ex61 (by omega) (by omega)
  refine lv_istore_n (lv' := [(1, .int x61), (0, .ref (ad 148))]) hx hb dX9_isCompared_6 rfl hl (by decide) rfl (fun ls hl => ?_)
  exact j7 (Int.toNat (x61.toInt + 1)) H locs ls x61 (by omega) (by omega) (by omega) hP hD hS (lv_sub hl [0, 1] rfl)
