theorem dX9_keepNow_0 : decode cX9_keepNow 0 = .ok (.iconst 0, 1) := by decide +kernel
theorem dX9_keepNow_1 : decode cX9_keepNow 1 = .ok (.istore_n 1, 1) := by decide +kernel
theorem dX9_keepNow_2 : decode cX9_keepNow 2 = .ok (.iload_n 1, 1) := by decide +kernel
theorem dX9_keepNow_3 : decode cX9_keepNow 3 = .ok (.bipush 16, 2) := by decide +kernel
theorem dX9_keepNow_5 : decode cX9_keepNow 5 = .ok (.if_icmp .ge 21, 3) := by decide +kernel
theorem dX9_keepNow_8 : decode cX9_keepNow 8 = .ok (.aload_n 0, 1) := by decide +kernel
theorem dX9_keepNow_9 : decode cX9_keepNow 9 = .ok (.getfield 79, 3) := by decide +kernel
theorem dX9_keepNow_12 : decode cX9_keepNow 12 = .ok (.iload_n 1, 1) := by decide +kernel
theorem dX9_keepNow_13 : decode cX9_keepNow 13 = .ok (.aload_n 0, 1) := by decide +kernel
theorem dX9_keepNow_14 : decode cX9_keepNow 14 = .ok (.getfield 76, 3) := by decide +kernel
theorem dX9_keepNow_17 : decode cX9_keepNow 17 = .ok (.iload_n 1, 1) := by decide +kernel
theorem dX9_keepNow_18 : decode cX9_keepNow 18 = .ok (.iaload, 1) := by decide +kernel
theorem dX9_keepNow_19 : decode cX9_keepNow 19 = .ok (.iastore, 1) := by decide +kernel
theorem dX9_keepNow_20 : decode cX9_keepNow 20 = .ok (.iinc 1 1, 3) := by decide +kernel
theorem dX9_keepNow_23 : decode cX9_keepNow 23 = .ok (.goto (-21), 3) := by decide +kernel
theorem dX9_keepNow_26 : decode cX9_keepNow 26 = .ok (.return_, 1) := by decide +kernel
theorem dX9_bringBack_0 : decode cX9_bringBack 0 = .ok (.iconst 0, 1) := by decide +kernel
theorem dX9_bringBack_1 : decode cX9_bringBack 1 = .ok (.istore_n 1, 1) := by decide +kernel
theorem dX9_bringBack_2 : decode cX9_bringBack 2 = .ok (.iload_n 1, 1) := by decide +kernel
theorem dX9_bringBack_3 : decode cX9_bringBack 3 = .ok (.bipush 16, 2) := by decide +kernel
theorem dX9_bringBack_5 : decode cX9_bringBack 5 = .ok (.if_icmp .ge 21, 3) := by decide +kernel
theorem dX9_bringBack_8 : decode cX9_bringBack 8 = .ok (.aload_n 0, 1) := by decide +kernel
theorem dX9_bringBack_9 : decode cX9_bringBack 9 = .ok (.getfield 76, 3) := by decide +kernel
theorem dX9_bringBack_12 : decode cX9_bringBack 12 = .ok (.iload_n 1, 1) := by decide +kernel
theorem dX9_bringBack_13 : decode cX9_bringBack 13 = .ok (.aload_n 0, 1) := by decide +kernel
theorem dX9_bringBack_14 : decode cX9_bringBack 14 = .ok (.getfield 79, 3) := by decide +kernel
theorem dX9_bringBack_17 : decode cX9_bringBack 17 = .ok (.iload_n 1, 1) := by decide +kernel
theorem dX9_bringBack_18 : decode cX9_bringBack 18 = .ok (.iaload, 1) := by decide +kernel
theorem dX9_bringBack_19 : decode cX9_bringBack 19 = .ok (.iastore, 1) := by decide +kernel
theorem dX9_bringBack_20 : decode cX9_bringBack 20 = .ok (.iinc 1 1, 3) := by decide +kernel
theorem dX9_bringBack_23 : decode cX9_bringBack 23 = .ok (.goto (-21), 3) := by decide +kernel
theorem dX9_bringBack_26 : decode cX9_bringBack 26 = .ok (.return_, 1) := by decide +kernel
set_option maxRecDepth 20000 in
theorem ggX9_standWith_X9_standBy : GoodIn wsX9_standWith wsX9_standBy := goodIn_r _ [6, 7, 8, 9, 10, 5, 11, 12, 13, 1, 14, 15, 16, 17, 18, 19, 20, 21, 22, 23, 24, 25, 26, 27, 28, 29, 30, 31, 32, 33, 34, 35, 36, 37, 38, 39, 40, 41, 42, 43, 44, 45, 46, 47, 48, 49, 50, 51, 52, 53, 54, 55, 56, 57, 58, 59, 60, 61, 62, 63, 64, 65, 66, 67, 68, 69, 70, 71, 72, 73, 74, 75, 76, 77, 78, 79, 80, 81, 82, 83, 84, 85, 86, 87, 88, 89, 90, 91, 92, 93, 94, 95, 96, 97, 98, 99, 100, 101, 102, 103, 104, 105, 106, 107, 108, 109, 110, 111, 112, 113, 114, 115, 116, 117, 118, 119, 120, 121, 122, 123, 124, 125, 126, 127, 128, 129, 130, 131, 132, 133, 134, 135, 136, 137, 138, 139, 140, 141, 142, 143, 144, 145, 146, 147, 148, 149, 150, 151, 152, 153, 154, 155, 156, 157, 158, 159, 160, 161, 162, 163, 164, 165, 166, 167] rfl rfl
set_option maxRecDepth 20000 in
theorem gX9_standWith_X9_standBy : GoodIn wsX9_standWith (wsV RX9 396 RX9 yX9_standBy wsX9_standBy) := goodIn_app (goodIn_of _ (by decide +kernel)) ggX9_standWith_X9_standBy
theorem dX9_standWith_0 : decode cX9_standWith 0 = .ok (.aload_n 0, 1) := by decide +kernel
theorem dX9_standWith_1 : decode cX9_standWith 1 = .ok (.aload_n 0, 1) := by decide +kernel
theorem dX9_standWith_2 : decode cX9_standWith 2 = .ok (.getfield 76, 3) := by decide +kernel
theorem dX9_standWith_5 : decode cX9_standWith 5 = .ok (.iconst 0, 1) := by decide +kernel
theorem dX9_standWith_6 : decode cX9_standWith 6 = .ok (.iaload, 1) := by decide +kernel
theorem dX9_standWith_7 : decode cX9_standWith 7 = .ok (.iload_n 1, 1) := by decide +kernel
theorem dX9_standWith_8 : decode cX9_standWith 8 = .ok (.invokevirtual 396, 3) := by decide +kernel
theorem dX9_standWith_11 : decode cX9_standWith 11 = .ok (.ireturn, 1) := by decide +kernel
set_option maxRecDepth 20000 in
theorem ggX9_doesStand_X9_standWith : GoodIn wsX9_doesStand wsX9_standWith := goodIn_r _ [5, 6, 7, 8, 9, 4, 10, 11, 12, 13, 14, 15, 16, 17, 18, 19, 20, 21, 22, 23, 24, 25, 26, 27, 28, 29, 30, 31, 32, 33, 34, 35, 36, 37, 38, 39, 40, 41, 42, 43, 44, 45, 46, 47, 48, 49, 50, 51, 52, 53, 54, 55, 56, 57, 58, 59, 60, 61, 62, 63, 64, 65, 66, 67, 68, 69, 70, 71, 72, 73, 74, 75, 76, 77, 78, 79, 80, 81, 82, 83, 84, 85, 86, 87, 88, 89, 90, 91, 92, 93, 94, 95, 96, 97, 98, 99, 100, 101, 102, 103, 104, 105, 106, 107, 108, 109, 110, 111, 112, 113, 114, 115, 116, 117, 118, 119, 120, 121, 122, 123, 124, 125, 126, 127, 128, 129, 130, 131, 132, 133, 134, 135, 136, 137, 138, 139, 140, 141, 142, 143, 144, 145, 146, 147, 148, 149, 150, 151, 152, 153, 154, 155, 156, 157, 158, 159, 160, 161, 162, 163, 164, 165, 166, 167, 168, 169, 170, 171] rfl rfl
set_option maxRecDepth 20000 in
theorem gX9_doesStand_X9_standWith : GoodIn wsX9_doesStand (wsV RX9 399 RX9 yX9_standWith wsX9_standWith) := goodIn_app (goodIn_of _ (by decide +kernel)) ggX9_doesStand_X9_standWith
set_option maxRecDepth 20000 in
theorem ggX9_doesStand_X9_bit : GoodIn wsX9_doesStand wsX9_bit := goodIn_r _ [28] rfl rfl
set_option maxRecDepth 20000 in
theorem gX9_doesStand_X9_bit : GoodIn wsX9_doesStand (va_wsS RX9 245 yX9_bit wsX9_bit) := goodIn_app (goodIn_of _ (by decide +kernel)) ggX9_doesStand_X9_bit
theorem dX9_doesStand_0 : decode cX9_doesStand 0 = .ok (.aload_n 0, 1) := by decide +kernel
theorem dX9_doesStand_1 : decode cX9_doesStand 1 = .ok (.iload_n 2, 1) := by decide +kernel
theorem dX9_doesStand_2 : decode cX9_doesStand 2 = .ok (.invokevirtual 399, 3) := by decide +kernel
theorem dX9_doesStand_5 : decode cX9_doesStand 5 = .ok (.iload_n 1, 1) := by decide +kernel
theorem dX9_doesStand_6 : decode cX9_doesStand 6 = .ok (.invokestatic 245, 3) := by decide +kernel
theorem dX9_doesStand_9 : decode cX9_doesStand 9 = .ok (.ireturn, 1) := by decide +kernel
set_option maxRecDepth 20000 in
theorem ggX9_stands_X9_standNow : GoodIn wsX9_stands wsX9_standNow := goodIn_r _ [5, 6, 7, 8, 9, 4, 10, 11, 12, 13, 14, 15, 16, 17, 18, 19, 20, 21, 22, 23, 24, 25, 26, 27, 28, 29, 30, 31, 32, 33, 34, 35, 36, 37, 38, 39, 40, 41, 42, 43, 44, 45, 46, 47, 48, 49, 50, 51, 52, 53, 54, 55, 56, 57, 58, 59, 60, 61, 62, 63, 64, 65, 66, 67, 68, 69, 70, 71, 72, 73, 74, 75, 76, 77, 78, 79, 80, 81, 82, 83, 84, 85, 86, 87, 88, 89, 90, 91, 92, 93, 94, 95, 96, 97, 98, 99, 100, 101, 102, 103, 104, 105, 106, 107, 108, 109, 110, 111, 112, 113, 114, 115, 116, 117, 118, 119, 120, 121, 122, 123, 124, 125, 126, 127, 128, 129, 130, 131, 132, 133, 134, 135, 136, 137, 138, 139, 140, 141, 142, 143, 144, 145, 146, 147, 148, 149, 150, 151, 152, 153, 154, 155, 156, 157, 158, 159, 160, 161, 162, 163, 164, 165, 166, 167, 168, 169, 170, 171] rfl rfl
set_option maxRecDepth 20000 in
theorem gX9_stands_X9_standNow : GoodIn wsX9_stands (wsV RX9 402 RX9 yX9_standNow wsX9_standNow) := goodIn_app (goodIn_of _ (by decide +kernel)) ggX9_stands_X9_standNow
theorem dX9_stands_0 : decode cX9_stands 0 = .ok (.aload_n 0, 1) := by decide +kernel
theorem dX9_stands_1 : decode cX9_stands 1 = .ok (.invokevirtual 402, 3) := by decide +kernel
theorem dX9_stands_4 : decode cX9_stands 4 = .ok (.ireturn, 1) := by decide +kernel
set_option maxRecDepth 20000 in
theorem ggX9_tight_X9_layWeights : GoodIn wsX9_tight wsX9_layWeights := goodIn_r _ [6, 7, 8, 1, 9, 10, 11, 12, 13, 14, 5, 15, 16, 17, 18, 19, 20, 21, 22, 23, 24, 25, 26, 27, 28, 29, 30, 31, 32, 33, 34, 35, 36, 37, 38, 39, 40, 41, 42, 43, 44, 45, 46, 47, 48, 49, 50, 51, 52, 53, 54, 55, 56, 57, 58, 59, 60, 61, 62, 63, 64, 65, 66, 67, 68, 69, 70, 103, 104, 105, 106, 107, 108, 109, 110, 111, 112, 113, 114, 115, 116, 117, 118, 119, 120, 121, 122, 123, 124, 125, 126, 127, 128, 129, 130, 131, 132, 133, 134, 135, 136, 137, 138, 139, 140, 141, 142, 143, 144, 145, 146, 147, 148, 149, 150, 151, 152, 153, 154, 155, 156, 157, 158, 159, 160, 161, 162, 163, 164, 165, 166] rfl rfl
set_option maxRecDepth 20000 in
theorem gX9_tight_X9_layWeights : GoodIn wsX9_tight (wsV RX9 386 RX9 yX9_layWeights wsX9_layWeights) := goodIn_app (goodIn_of _ (by decide +kernel)) ggX9_tight_X9_layWeights
set_option maxRecDepth 20000 in
theorem ggX9_tight_X9_facts : GoodIn wsX9_tight wsX9_facts := goodIn_r _ [74, 75, 76, 77, 5, 78, 79, 11, 80, 81, 82, 83, 64, 84, 85, 86, 87, 88, 89, 90, 103, 104, 105, 106, 107, 108, 109, 110, 111, 112, 113, 114, 115, 116, 117, 118, 119, 120, 121, 122, 123, 124, 125, 126, 127, 128, 129, 130, 131, 132, 133, 134, 135, 136, 137, 138, 139, 140, 141, 142, 143, 144, 145, 146, 147, 148, 149, 150, 151, 152, 153, 154, 155, 156, 157, 158, 159, 160, 161, 162, 163, 164, 165, 166] rfl rfl
set_option maxRecDepth 20000 in
theorem gX9_tight_X9_facts : GoodIn wsX9_tight (wsV RX9 362 RX9 yX9_facts wsX9_facts) := goodIn_app (goodIn_of _ (by decide +kernel)) ggX9_tight_X9_facts
set_option maxRecDepth 20000 in
theorem ggX9_tight_X9_claims : GoodIn wsX9_tight wsX9_claims := goodIn_r _ [94, 75, 76, 77, 5, 78, 79, 11, 71, 72, 73, 74, 80, 81, 82, 83, 64, 84, 85, 86, 87, 88, 89, 90, 103, 104, 105, 106, 107, 108, 109, 110, 111, 112, 113, 114, 115, 116, 117, 118, 119, 120, 121, 122, 123, 124, 125, 126, 127, 128, 129, 130, 131, 132, 133, 134, 135, 136, 137, 138, 139, 140, 141, 142, 143, 144, 145, 146, 147, 148, 149, 150, 151, 152, 153, 154, 155, 156, 157, 158, 159, 160, 161, 162, 163, 164, 165, 166] rfl rfl
set_option maxRecDepth 20000 in
theorem gX9_tight_X9_claims : GoodIn wsX9_tight (wsV RX9 405 RX9 yX9_claims wsX9_claims) := goodIn_app (goodIn_of _ (by decide +kernel)) ggX9_tight_X9_claims
set_option maxRecDepth 20000 in
theorem ggX9_tight_X9_many : GoodIn wsX9_tight wsX9_many := goodIn_r _ [78, 79, 11, 103, 104, 105, 106, 107, 108, 109, 110, 111, 112, 113, 114, 115, 116, 117, 118, 119, 120, 121, 122, 123, 124, 125, 126, 127, 128, 129, 130, 131, 132, 133, 134, 135, 136, 137, 138, 139, 140, 141, 142, 143, 144, 145, 146, 147, 148, 149, 150, 151, 152, 153, 154, 155, 156, 157, 158, 159, 160, 161, 162, 163, 164, 165, 166] rfl rfl
set_option maxRecDepth 20000 in
theorem gX9_tight_X9_many : GoodIn wsX9_tight (wsV RX9 343 RX9 yX9_many wsX9_many) := goodIn_app (goodIn_of _ (by decide +kernel)) ggX9_tight_X9_many
set_option maxRecDepth 20000 in
theorem ggX9_tight_X9_isClaim : GoodIn wsX9_tight wsX9_isClaim := goodIn_r _ [98, 64, 11, 84, 85, 86, 5, 87, 75, 76, 77, 78, 79, 88, 89, 90, 103, 104, 105, 106, 107, 108, 109, 110, 111, 112, 113, 114, 115, 116, 117, 118, 119, 120, 121, 122, 123, 124, 125, 126, 127, 128, 129, 130, 131, 132, 133, 134, 135, 136, 137, 138, 139, 140, 141, 142, 143, 144, 145, 146, 147, 148, 149, 150, 151, 152, 153, 154, 155, 156, 157, 158, 159, 160, 161, 162, 163, 164, 165, 166] rfl rfl
set_option maxRecDepth 20000 in
theorem gX9_tight_X9_isClaim : GoodIn wsX9_tight (wsV RX9 390 RX9 yX9_isClaim wsX9_isClaim) := goodIn_app (goodIn_of _ (by decide +kernel)) ggX9_tight_X9_isClaim
set_option maxRecDepth 20000 in
theorem ggX9_tight_X9_borne : GoodIn wsX9_tight wsX9_borne := goodIn_r _ [102, 9, 12, 13, 14, 5, 15, 16, 11, 36, 37, 38, 39, 40, 48, 49, 50, 51, 52, 17, 18, 19, 103, 104, 105, 106, 107, 108, 109, 110, 111, 112, 113, 114, 115, 116, 117, 118, 119, 120, 121, 122, 123, 124, 125, 126, 127, 128, 129, 130, 131, 132, 133, 134, 135, 136, 137, 138, 139, 140, 141, 142, 143, 144, 145, 146, 147, 148, 149, 150, 151, 152, 153, 154, 155, 156, 157, 158, 159, 160, 161, 162, 163, 164, 165, 166] rfl rfl
set_option maxRecDepth 20000 in
theorem gX9_tight_X9_borne : GoodIn wsX9_tight (wsV RX9 393 RX9 yX9_borne wsX9_borne) := goodIn_app (goodIn_of _ (by decide +kernel)) ggX9_tight_X9_borne
set_option maxRecDepth 20000 in
theorem ggX9_tight_X9_needOf : GoodIn wsX9_tight wsX9_needOf := goodIn_r _ [60, 61, 62, 63, 64, 11, 103, 104, 105, 106, 107, 108, 109, 110, 111, 112, 113, 114, 115, 116, 117, 118, 119, 120, 121, 122, 123, 124, 125, 126, 127, 128, 129, 130, 131, 132, 133, 134, 135, 136, 137, 138, 139, 140, 141, 142, 143, 144, 145, 146, 147, 148, 149, 150, 151, 152, 153, 154, 155, 156, 157, 158, 159, 160, 161, 162, 163, 164, 165, 166] rfl rfl
set_option maxRecDepth 20000 in
theorem gX9_tight_X9_needOf : GoodIn wsX9_tight (wsV RX9 333 RX9 yX9_needOf wsX9_needOf) := goodIn_app (goodIn_of _ (by decide +kernel)) ggX9_tight_X9_needOf
theorem dX9_tight_0 : decode cX9_tight 0 = .ok (.aload_n 0, 1) := by decide +kernel
theorem dX9_tight_1 : decode cX9_tight 1 = .ok (.aload_n 0, 1) := by decide +kernel
theorem dX9_tight_2 : decode cX9_tight 2 = .ok (.getfield 76, 3) := by decide +kernel
theorem dX9_tight_5 : decode cX9_tight 5 = .ok (.iconst 1, 1) := by decide +kernel
theorem dX9_tight_6 : decode cX9_tight 6 = .ok (.iaload, 1) := by decide +kernel
theorem dX9_tight_7 : decode cX9_tight 7 = .ok (.invokevirtual 386, 3) := by decide +kernel
theorem dX9_tight_10 : decode cX9_tight 10 = .ok (.aload_n 0, 1) := by decide +kernel
theorem dX9_tight_11 : decode cX9_tight 11 = .ok (.invokevirtual 362, 3) := by decide +kernel
theorem dX9_tight_14 : decode cX9_tight 14 = .ok (.aload_n 0, 1) := by decide +kernel
theorem dX9_tight_15 : decode cX9_tight 15 = .ok (.getfield 76, 3) := by decide +kernel
theorem dX9_tight_18 : decode cX9_tight 18 = .ok (.iconst 0, 1) := by decide +kernel
theorem dX9_tight_19 : decode cX9_tight 19 = .ok (.iaload, 1) := by decide +kernel
theorem dX9_tight_20 : decode cX9_tight 20 = .ok (.iconst (-1), 1) := by decide +kernel
theorem dX9_tight_21 : decode cX9_tight 21 = .ok (.ixor, 1) := by decide +kernel
theorem dX9_tight_22 : decode cX9_tight 22 = .ok (.iand, 1) := by decide +kernel
theorem dX9_tight_23 : decode cX9_tight 23 = .ok (.aload_n 0, 1) := by decide +kernel
theorem dX9_tight_24 : decode cX9_tight 24 = .ok (.invokevirtual 405, 3) := by decide +kernel
theorem dX9_tight_27 : decode cX9_tight 27 = .ok (.ior, 1) := by decide +kernel
theorem dX9_tight_28 : decode cX9_tight 28 = .ok (.istore_n 1, 1) := by decide +kernel
theorem dX9_tight_29 : decode cX9_tight 29 = .ok (.iconst 0, 1) := by decide +kernel
theorem dX9_tight_30 : decode cX9_tight 30 = .ok (.istore_n 2, 1) := by decide +kernel
theorem dX9_tight_31 : decode cX9_tight 31 = .ok (.iload_n 2, 1) := by decide +kernel
theorem dX9_tight_32 : decode cX9_tight 32 = .ok (.aload_n 0, 1) := by decide +kernel
theorem dX9_tight_33 : decode cX9_tight 33 = .ok (.invokevirtual 343, 3) := by decide +kernel
theorem dX9_tight_36 : decode cX9_tight 36 = .ok (.if_icmp .ge 55, 3) := by decide +kernel
theorem dX9_tight_39 : decode cX9_tight 39 = .ok (.iconst 0, 1) := by decide +kernel
theorem dX9_tight_40 : decode cX9_tight 40 = .ok (.istore_n 3, 1) := by decide +kernel
theorem dX9_tight_41 : decode cX9_tight 41 = .ok (.iload_n 3, 1) := by decide +kernel
theorem dX9_tight_42 : decode cX9_tight 42 = .ok (.aload_n 0, 1) := by decide +kernel
theorem dX9_tight_43 : decode cX9_tight 43 = .ok (.invokevirtual 343, 3) := by decide +kernel
theorem dX9_tight_46 : decode cX9_tight 46 = .ok (.if_icmp .ge 39, 3) := by decide +kernel
theorem dX9_tight_49 : decode cX9_tight 49 = .ok (.aload_n 0, 1) := by decide +kernel
theorem dX9_tight_50 : decode cX9_tight 50 = .ok (.iload_n 3, 1) := by decide +kernel
theorem dX9_tight_51 : decode cX9_tight 51 = .ok (.invokevirtual 390, 3) := by decide +kernel
theorem dX9_tight_54 : decode cX9_tight 54 = .ok (.ifCond .eq 25, 3) := by decide +kernel
theorem dX9_tight_57 : decode cX9_tight 57 = .ok (.aload_n 0, 1) := by decide +kernel
theorem dX9_tight_58 : decode cX9_tight 58 = .ok (.iload_n 3, 1) := by decide +kernel
theorem dX9_tight_59 : decode cX9_tight 59 = .ok (.iload_n 1, 1) := by decide +kernel
theorem dX9_tight_60 : decode cX9_tight 60 = .ok (.invokevirtual 393, 3) := by decide +kernel
theorem dX9_tight_63 : decode cX9_tight 63 = .ok (.aload_n 0, 1) := by decide +kernel
theorem dX9_tight_64 : decode cX9_tight 64 = .ok (.iload_n 3, 1) := by decide +kernel
theorem dX9_tight_65 : decode cX9_tight 65 = .ok (.invokevirtual 333, 3) := by decide +kernel
theorem dX9_tight_68 : decode cX9_tight 68 = .ok (.if_icmp .ge 11, 3) := by decide +kernel
theorem dX9_tight_71 : decode cX9_tight 71 = .ok (.iload_n 1, 1) := by decide +kernel
theorem dX9_tight_72 : decode cX9_tight 72 = .ok (.iconst 1, 1) := by decide +kernel
theorem dX9_tight_73 : decode cX9_tight 73 = .ok (.iload_n 3, 1) := by decide +kernel
theorem dX9_tight_74 : decode cX9_tight 74 = .ok (.ishl, 1) := by decide +kernel
theorem dX9_tight_75 : decode cX9_tight 75 = .ok (.iconst (-1), 1) := by decide +kernel
theorem dX9_tight_76 : decode cX9_tight 76 = .ok (.ixor, 1) := by decide +kernel
theorem dX9_tight_77 : decode cX9_tight 77 = .ok (.iand, 1) := by decide +kernel
theorem dX9_tight_78 : decode cX9_tight 78 = .ok (.istore_n 1, 1) := by decide +kernel
theorem dX9_tight_79 : decode cX9_tight 79 = .ok (.iinc 3 1, 3) := by decide +kernel
theorem dX9_tight_82 : decode cX9_tight 82 = .ok (.goto (-41), 3) := by decide +kernel
theorem dX9_tight_85 : decode cX9_tight 85 = .ok (.iinc 2 1, 3) := by decide +kernel
theorem dX9_tight_88 : decode cX9_tight 88 = .ok (.goto (-57), 3) := by decide +kernel
theorem dX9_tight_91 : decode cX9_tight 91 = .ok (.iload_n 1, 1) := by decide +kernel
theorem dX9_tight_92 : decode cX9_tight 92 = .ok (.ireturn, 1) := by decide +kernel
set_option maxRecDepth 20000 in
theorem ggX9_hollow_X9_tight : GoodIn wsX9_hollow wsX9_tight := goodIn_r _ [5, 6, 7, 8, 9, 4, 10, 11, 12, 13, 14, 15, 16, 17, 18, 19, 20, 21, 22, 23, 24, 25, 26, 27, 28, 29, 30, 31, 32, 33, 34, 35, 36, 37, 38, 39, 40, 41, 42, 43, 44, 45, 46, 47, 48, 49, 50, 51, 52, 53, 54, 55, 56, 57, 58, 59, 60, 61, 62, 63, 64, 65, 66, 67, 68, 69, 70, 71, 72, 73, 74, 75, 76, 77, 78, 79, 80, 81, 82, 83, 84, 85, 86, 87, 88, 89, 90, 91, 92, 93, 94, 95, 96, 97, 98, 99, 100, 101, 102, 103, 104, 105, 106, 116, 117, 118, 119, 120, 121, 122, 123, 124, 125, 126, 127, 128, 129, 130, 131, 132, 133, 134, 135, 136, 137, 138, 139, 140, 141, 142, 143, 144, 145, 146, 147, 148, 149, 150, 151, 152, 153, 154, 155, 156, 157, 158, 159, 160, 161, 162, 163, 164, 165, 166, 167, 168, 169, 170, 171, 172, 173, 174, 175, 176, 177, 178, 179] rfl rfl
set_option maxRecDepth 20000 in
theorem gX9_hollow_X9_tight : GoodIn wsX9_hollow (wsV RX9 411 RX9 yX9_tight wsX9_tight) := goodIn_app (goodIn_of _ (by decide +kernel)) ggX9_hollow_X9_tight
set_option maxRecDepth 20000 in
theorem ggX9_hollow_X9_standNow : GoodIn wsX9_hollow wsX9_standNow := goodIn_r _ [110, 6, 111, 112, 113, 4, 114, 115, 7, 8, 9, 10, 11, 12, 13, 14, 15, 16, 17, 18, 19, 20, 21, 22, 23, 24, 25, 26, 27, 28, 29, 30, 31, 32, 33, 34, 35, 36, 37, 38, 39, 40, 41, 42, 43, 44, 45, 46, 47, 48, 49, 50, 51, 52, 53, 54, 55, 56, 57, 58, 59, 60, 61, 62, 63, 64, 65, 66, 67, 68, 69, 70, 71, 72, 73, 74, 75, 76, 77, 78, 79, 80, 81, 82, 83, 84, 85, 86, 87, 88, 89, 90, 91, 92, 93, 94, 99, 100, 101, 102, 103, 104, 105, 106, 116, 117, 118, 119, 120, 121, 122, 123, 124, 125, 126, 127, 128, 129, 130, 131, 132, 133, 134, 135, 136, 137, 138, 139, 140, 141, 142, 143, 144, 145, 146, 147, 148, 149, 150, 151, 152, 153, 154, 155, 156, 157, 158, 159, 160, 161, 162, 163, 164, 165, 166, 167, 168, 169, 170, 171, 172, 173, 174, 175, 176, 177, 178, 179] rfl rfl
set_option maxRecDepth 20000 in
theorem gX9_hollow_X9_standNow : GoodIn wsX9_hollow (wsV RX9 402 RX9 yX9_standNow wsX9_standNow) := goodIn_app (goodIn_of _ (by decide +kernel)) ggX9_hollow_X9_standNow
theorem dX9_hollow_0 : decode cX9_hollow 0 = .ok (.aload_n 0, 1) := by decide +kernel
theorem dX9_hollow_1 : decode cX9_hollow 1 = .ok (.invokevirtual 411, 3) := by decide +kernel
theorem dX9_hollow_4 : decode cX9_hollow 4 = .ok (.istore_n 1, 1) := by decide +kernel
theorem dX9_hollow_5 : decode cX9_hollow 5 = .ok (.iload_n 1, 1) := by decide +kernel
theorem dX9_hollow_6 : decode cX9_hollow 6 = .ok (.aload_n 0, 1) := by decide +kernel
theorem dX9_hollow_7 : decode cX9_hollow 7 = .ok (.invokevirtual 402, 3) := by decide +kernel
theorem dX9_hollow_10 : decode cX9_hollow 10 = .ok (.iconst (-1), 1) := by decide +kernel
theorem dX9_hollow_11 : decode cX9_hollow 11 = .ok (.ixor, 1) := by decide +kernel
theorem dX9_hollow_12 : decode cX9_hollow 12 = .ok (.iand, 1) := by decide +kernel
theorem dX9_hollow_13 : decode cX9_hollow 13 = .ok (.ireturn, 1) := by decide +kernel
set_option maxRecDepth 20000 in
theorem ggX9_will_X9_isIn : GoodIn wsX9_will wsX9_isIn := goodIn_r _ [5] rfl rfl
set_option maxRecDepth 20000 in
theorem gX9_will_X9_isIn : GoodIn wsX9_will (va_wsS RX9 346 yX9_isIn wsX9_isIn) := goodIn_app (goodIn_of _ (by decide +kernel)) ggX9_will_X9_isIn
set_option maxRecDepth 20000 in
theorem ggX9_will_X9_keepNow : GoodIn wsX9_will wsX9_keepNow := goodIn_r _ [9, 10, 1, 122, 123, 124, 125, 126, 127, 128, 129, 130, 131, 132, 133, 134, 135, 136, 137, 138, 139, 140, 141, 142, 143, 144, 145, 146, 147, 148, 149, 150, 151, 152, 153, 154, 155, 156, 157, 158, 159, 160, 161, 162, 163, 164, 165, 166, 167, 168, 169, 170, 171, 172, 173, 174, 175, 176, 177, 178, 179, 180, 181, 182, 183, 184, 185] rfl rfl
set_option maxRecDepth 20000 in
theorem gX9_will_X9_keepNow : GoodIn wsX9_will (wsV RX9 430 RX9 yX9_keepNow wsX9_keepNow) := goodIn_app (goodIn_of _ (by decide +kernel)) ggX9_will_X9_keepNow
set_option maxRecDepth 20000 in
theorem ggX9_will_X9_goDay : GoodIn wsX9_will wsX9_goDay := goodIn_r _ [14, 1, 15, 16, 17, 18, 19, 4, 20, 21, 22, 23, 24, 122, 123, 124, 125, 126, 127, 128, 129, 130, 131, 132, 133, 134, 135, 136, 137, 138, 139, 140, 141, 142, 143, 144, 145, 146, 147, 148, 149, 150, 151, 152, 153, 154, 155, 156, 157, 158, 159, 160, 161, 162, 163, 164, 165, 166, 167, 168, 169, 170, 171, 172, 173, 174, 175, 176, 177, 178, 179, 180, 181, 182, 183, 184, 185] rfl rfl
set_option maxRecDepth 20000 in
theorem gX9_will_X9_goDay : GoodIn wsX9_will (wsV RX9 424 RX9 yX9_goDay wsX9_goDay) := goodIn_app (goodIn_of _ (by decide +kernel)) ggX9_will_X9_goDay
set_option maxRecDepth 20000 in
theorem ggX9_will_X9_standNow : GoodIn wsX9_will wsX9_standNow := goodIn_r _ [28, 1, 29, 30, 31, 4, 32, 33, 34, 35, 36, 37, 38, 39, 40, 41, 16, 17, 18, 19, 20, 21, 22, 23, 24, 42, 43, 44, 45, 46, 47, 48, 49, 50, 51, 52, 53, 54, 55, 56, 57, 58, 59, 60, 61, 62, 63, 64, 65, 66, 67, 68, 69, 70, 71, 72, 73, 74, 75, 76, 77, 78, 79, 80, 81, 82, 83, 84, 85, 86, 87, 88, 89, 90, 91, 92, 93, 94, 95, 96, 97, 98, 99, 100, 101, 102, 103, 104, 105, 106, 107, 108, 109, 2, 3, 5, 110, 111, 112, 113, 114, 115, 116, 117, 122, 123, 124, 125, 126, 127, 128, 129, 130, 131, 132, 133, 134, 135, 136, 137, 138, 139, 140, 141, 142, 143, 144, 145, 146, 147, 148, 149, 150, 151, 152, 153, 154, 155, 156, 157, 158, 159, 160, 161, 162, 163, 164, 165, 166, 167, 168, 169, 170, 171, 172, 173, 174, 175, 176, 177, 178, 179, 180, 181, 182, 183, 184, 185] rfl rfl
set_option maxRecDepth 20000 in
theorem gX9_will_X9_standNow : GoodIn wsX9_will (wsV RX9 402 RX9 yX9_standNow wsX9_standNow) := goodIn_app (goodIn_of _ (by decide +kernel)) ggX9_will_X9_standNow
set_option maxRecDepth 20000 in
theorem ggX9_will_X9_bringBack : GoodIn wsX9_will wsX9_bringBack := goodIn_r _ [121, 1, 10, 122, 123, 124, 125, 126, 127, 128, 129, 130, 131, 132, 133, 134, 135, 136, 137, 138, 139, 140, 141, 142, 143, 144, 145, 146, 147, 148, 149, 150, 151, 152, 153, 154, 155, 156, 157, 158, 159, 160, 161, 162, 163, 164, 165, 166, 167, 168, 169, 170, 171, 172, 173, 174, 175, 176, 177, 178, 179, 180, 181, 182, 183, 184, 185] rfl rfl
set_option maxRecDepth 20000 in
theorem gX9_will_X9_bringBack : GoodIn wsX9_will (wsV RX9 433 RX9 yX9_bringBack wsX9_bringBack) := goodIn_app (goodIn_of _ (by decide +kernel)) ggX9_will_X9_bringBack
theorem dX9_will_0 : decode cX9_will 0 = .ok (.iload_n 1, 1) := by decide +kernel
theorem dX9_will_1 : decode cX9_will 1 = .ok (.iconst 0, 1) := by decide +kernel
theorem dX9_will_2 : decode cX9_will 2 = .ok (.bipush 60, 2) := by decide +kernel
theorem dX9_will_4 : decode cX9_will 4 = .ok (.invokestatic 346, 3) := by decide +kernel
theorem dX9_will_7 : decode cX9_will 7 = .ok (.ifCond .eq 12, 3) := by decide +kernel
theorem dX9_will_10 : decode cX9_will 10 = .ok (.iload_n 2, 1) := by decide +kernel
theorem dX9_will_11 : decode cX9_will 11 = .ok (.iconst 0, 1) := by decide +kernel
theorem dX9_will_12 : decode cX9_will 12 = .ok (.iconst 1, 1) := by decide +kernel
theorem dX9_will_13 : decode cX9_will 13 = .ok (.invokestatic 346, 3) := by decide +kernel
theorem dX9_will_16 : decode cX9_will 16 = .ok (.ifCond .ne 5, 3) := by decide +kernel
theorem dX9_will_19 : decode cX9_will 19 = .ok (.iconst (-1), 1) := by decide +kernel
theorem dX9_will_20 : decode cX9_will 20 = .ok (.ireturn, 1) := by decide +kernel
theorem dX9_will_21 : decode cX9_will 21 = .ok (.aload_n 0, 1) := by decide +kernel
theorem dX9_will_22 : decode cX9_will 22 = .ok (.invokevirtual 430, 3) := by decide +kernel
theorem dX9_will_25 : decode cX9_will 25 = .ok (.iconst 0, 1) := by decide +kernel
theorem dX9_will_26 : decode cX9_will 26 = .ok (.istore_n 3, 1) := by decide +kernel
theorem dX9_will_27 : decode cX9_will 27 = .ok (.iconst 0, 1) := by decide +kernel
theorem dX9_will_28 : decode cX9_will 28 = .ok (.istore 4, 2) := by decide +kernel
theorem dX9_will_30 : decode cX9_will 30 = .ok (.iload 4, 2) := by decide +kernel
theorem dX9_will_32 : decode cX9_will 32 = .ok (.iload_n 1, 1) := by decide +kernel
theorem dX9_will_33 : decode cX9_will 33 = .ok (.if_icmp .ge 32, 3) := by decide +kernel
theorem dX9_will_36 : decode cX9_will 36 = .ok (.aload_n 0, 1) := by decide +kernel
theorem dX9_will_37 : decode cX9_will 37 = .ok (.getfield 76, 3) := by decide +kernel
theorem dX9_will_40 : decode cX9_will 40 = .ok (.bipush 14, 2) := by decide +kernel
theorem dX9_will_42 : decode cX9_will 42 = .ok (.dup2, 1) := by decide +kernel
theorem dX9_will_43 : decode cX9_will 43 = .ok (.iaload, 1) := by decide +kernel
theorem dX9_will_44 : decode cX9_will 44 = .ok (.iconst 1, 1) := by decide +kernel
theorem dX9_will_45 : decode cX9_will 45 = .ok (.iadd, 1) := by decide +kernel
theorem dX9_will_46 : decode cX9_will 46 = .ok (.iastore, 1) := by decide +kernel
theorem dX9_will_47 : decode cX9_will 47 = .ok (.iload_n 2, 1) := by decide +kernel
theorem dX9_will_48 : decode cX9_will 48 = .ok (.iconst 1, 1) := by decide +kernel
theorem dX9_will_49 : decode cX9_will 49 = .ok (.if_icmp .ne 10, 3) := by decide +kernel
theorem dX9_will_52 : decode cX9_will 52 = .ok (.iload_n 3, 1) := by decide +kernel
theorem dX9_will_53 : decode cX9_will 53 = .ok (.aload_n 0, 1) := by decide +kernel
theorem dX9_will_54 : decode cX9_will 54 = .ok (.invokevirtual 424, 3) := by decide +kernel
theorem dX9_will_57 : decode cX9_will 57 = .ok (.ior, 1) := by decide +kernel
theorem dX9_will_58 : decode cX9_will 58 = .ok (.istore_n 3, 1) := by decide +kernel
theorem dX9_will_59 : decode cX9_will 59 = .ok (.iinc 4 1, 3) := by decide +kernel
theorem dX9_will_62 : decode cX9_will 62 = .ok (.goto (-32), 3) := by decide +kernel
theorem dX9_will_65 : decode cX9_will 65 = .ok (.aload_n 0, 1) := by decide +kernel
theorem dX9_will_66 : decode cX9_will 66 = .ok (.invokevirtual 402, 3) := by decide +kernel
theorem dX9_will_69 : decode cX9_will 69 = .ok (.istore 4, 2) := by decide +kernel
theorem dX9_will_71 : decode cX9_will 71 = .ok (.aload_n 0, 1) := by decide +kernel
theorem dX9_will_72 : decode cX9_will 72 = .ok (.invokevirtual 433, 3) := by decide +kernel
theorem dX9_will_75 : decode cX9_will 75 = .ok (.iload 4, 2) := by decide +kernel
theorem dX9_will_77 : decode cX9_will 77 = .ok (.ireturn, 1) := by decide +kernel
set_option maxRecDepth 20000 in
theorem ggX9_isLess_X9_bitsOf : GoodIn wsX9_isLess wsX9_bitsOf := goodIn_r _ [4] rfl rfl
set_option maxRecDepth 20000 in
theorem gX9_isLess_X9_bitsOf : GoodIn wsX9_isLess (va_wsS RX9 324 yX9_bitsOf wsX9_bitsOf) := goodIn_app (goodIn_of _ (by decide +kernel)) ggX9_isLess_X9_bitsOf
theorem dX9_isLess_0 : decode cX9_isLess 0 = .ok (.iload_n 1, 1) := by decide +kernel
theorem dX9_isLess_1 : decode cX9_isLess 1 = .ok (.ifCond .lt 14, 3) := by decide +kernel
theorem dX9_isLess_4 : decode cX9_isLess 4 = .ok (.iload_n 0, 1) := by decide +kernel
theorem dX9_isLess_5 : decode cX9_isLess 5 = .ok (.invokestatic 324, 3) := by decide +kernel
theorem dX9_isLess_8 : decode cX9_isLess 8 = .ok (.iload_n 1, 1) := by decide +kernel
theorem dX9_isLess_9 : decode cX9_isLess 9 = .ok (.invokestatic 324, 3) := by decide +kernel
theorem dX9_isLess_12 : decode cX9_isLess 12 = .ok (.if_icmp .ge 7, 3) := by decide +kernel
theorem dX9_isLess_15 : decode cX9_isLess 15 = .ok (.iconst 1, 1) := by decide +kernel
theorem dX9_isLess_16 : decode cX9_isLess 16 = .ok (.goto 4, 3) := by decide +kernel
theorem dX9_isLess_19 : decode cX9_isLess 19 = .ok (.iconst 0, 1) := by decide +kernel
theorem dX9_isLess_20 : decode cX9_isLess 20 = .ok (.ireturn, 1) := by decide +kernel
set_option maxRecDepth 20000 in
theorem ggX9_toldOf_X9_bitsOf : GoodIn wsX9_toldOf wsX9_bitsOf := goodIn_r _ [4] rfl rfl
set_option maxRecDepth 20000 in
theorem gX9_toldOf_X9_bitsOf : GoodIn wsX9_toldOf (va_wsS RX9 324 yX9_bitsOf wsX9_bitsOf) := goodIn_app (goodIn_of _ (by decide +kernel)) ggX9_toldOf_X9_bitsOf
theorem dX9_toldOf_0 : decode cX9_toldOf 0 = .ok (.iload_n 0, 1) := by decide +kernel
theorem dX9_toldOf_1 : decode cX9_toldOf 1 = .ok (.ifCond .ge 7, 3) := by decide +kernel
theorem dX9_toldOf_4 : decode cX9_toldOf 4 = .ok (.iconst (-1), 1) := by decide +kernel
theorem dX9_toldOf_5 : decode cX9_toldOf 5 = .ok (.goto 15, 3) := by decide +kernel
theorem dX9_toldOf_8 : decode cX9_toldOf 8 = .ok (.iload_n 1, 1) := by decide +kernel
theorem dX9_toldOf_9 : decode cX9_toldOf 9 = .ok (.ifCond .ne 10, 3) := by decide +kernel
theorem dX9_toldOf_12 : decode cX9_toldOf 12 = .ok (.iload_n 0, 1) := by decide +kernel
theorem dX9_toldOf_13 : decode cX9_toldOf 13 = .ok (.invokestatic 324, 3) := by decide +kernel
theorem dX9_toldOf_16 : decode cX9_toldOf 16 = .ok (.goto 4, 3) := by decide +kernel
theorem dX9_toldOf_19 : decode cX9_toldOf 19 = .ok (.iload_n 0, 1) := by decide +kernel
theorem dX9_toldOf_20 : decode cX9_toldOf 20 = .ok (.ireturn, 1) := by decide +kernel
set_option maxRecDepth 20000 in
theorem ggX9_toppleOf_X9_isLess : GoodIn wsX9_toppleOf wsX9_isLess := goodIn_r _ [5, 6, 7, 4, 8] rfl rfl
set_option maxRecDepth 20000 in
theorem gX9_toppleOf_X9_isLess : GoodIn wsX9_toppleOf (va_wsS RX9 436 yX9_isLess wsX9_isLess) := goodIn_app (goodIn_of _ (by decide +kernel)) ggX9_toppleOf_X9_isLess
set_option maxRecDepth 20000 in
theorem ggX9_toppleOf_X9_doesStand : GoodIn wsX9_toppleOf wsX9_doesStand := goodIn_r _ [12, 13, 14, 15, 4, 16, 1, 17, 18, 19, 20, 21, 22, 23, 24, 25, 26, 27, 28, 29, 30, 31, 32, 33, 34, 35, 36, 37, 38, 39, 40, 41, 42, 43, 44, 45, 46, 47, 48, 49, 50, 51, 52, 53, 54, 55, 56, 57, 58, 59, 60, 61, 62, 63, 6, 7, 8, 64, 65, 66, 67, 68, 69, 70, 71, 72, 73, 74, 75, 76, 77, 78, 79, 80, 81, 82, 83, 84, 85, 86, 87, 88, 89, 90, 91, 92, 93, 94, 95, 96, 97, 98, 99, 100, 101, 102, 103, 104, 105, 106, 107, 108, 109, 110, 111, 112, 113, 114, 115, 116, 117, 118, 119, 120, 121, 122, 123, 124, 125, 126, 127, 128, 129, 130, 131, 132, 133, 134, 135, 136, 137, 138, 139, 140, 141, 142, 143, 144, 145, 146, 147, 148, 149, 150, 151, 152, 153, 154, 155, 156, 157, 158, 159, 160, 161, 162, 163, 164, 165, 166, 167, 168, 169, 170, 171, 172, 173, 174, 175, 176, 177, 178] rfl rfl
set_option maxRecDepth 20000 in
theorem gX9_toppleOf_X9_doesStand : GoodIn wsX9_toppleOf (wsV RX9 439 RX9 yX9_doesStand wsX9_doesStand) := goodIn_app (goodIn_of _ (by decide +kernel)) ggX9_toppleOf_X9_doesStand
theorem dX9_toppleOf_0 : decode cX9_toppleOf 0 = .ok (.iconst (-1), 1) := by decide +kernel
theorem dX9_toppleOf_1 : decode cX9_toppleOf 1 = .ok (.istore_n 2, 1) := by decide +kernel
theorem dX9_toppleOf_2 : decode cX9_toppleOf 2 = .ok (.iconst 0, 1) := by decide +kernel
theorem dX9_toppleOf_3 : decode cX9_toppleOf 3 = .ok (.istore_n 3, 1) := by decide +kernel
theorem dX9_toppleOf_4 : decode cX9_toppleOf 4 = .ok (.iload_n 3, 1) := by decide +kernel
theorem dX9_toppleOf_5 : decode cX9_toppleOf 5 = .ok (.aload_n 0, 1) := by decide +kernel
theorem dX9_toppleOf_6 : decode cX9_toppleOf 6 = .ok (.getfield 76, 3) := by decide +kernel
theorem dX9_toppleOf_9 : decode cX9_toppleOf 9 = .ok (.iconst 1, 1) := by decide +kernel
theorem dX9_toppleOf_10 : decode cX9_toppleOf 10 = .ok (.iaload, 1) := by decide +kernel
theorem dX9_toppleOf_11 : decode cX9_toppleOf 11 = .ok (.if_icmp .gt 50, 3) := by decide +kernel
theorem dX9_toppleOf_14 : decode cX9_toppleOf 14 = .ok (.iload_n 3, 1) := by decide +kernel
theorem dX9_toppleOf_15 : decode cX9_toppleOf 15 = .ok (.aload_n 0, 1) := by decide +kernel
theorem dX9_toppleOf_16 : decode cX9_toppleOf 16 = .ok (.getfield 76, 3) := by decide +kernel
theorem dX9_toppleOf_19 : decode cX9_toppleOf 19 = .ok (.iconst 1, 1) := by decide +kernel
theorem dX9_toppleOf_20 : decode cX9_toppleOf 20 = .ok (.iaload, 1) := by decide +kernel
theorem dX9_toppleOf_21 : decode cX9_toppleOf 21 = .ok (.iconst (-1), 1) := by decide +kernel
theorem dX9_toppleOf_22 : decode cX9_toppleOf 22 = .ok (.ixor, 1) := by decide +kernel
theorem dX9_toppleOf_23 : decode cX9_toppleOf 23 = .ok (.iand, 1) := by decide +kernel
theorem dX9_toppleOf_24 : decode cX9_toppleOf 24 = .ok (.ifCond .ne 31, 3) := by decide +kernel
theorem dX9_toppleOf_27 : decode cX9_toppleOf 27 = .ok (.iload_n 3, 1) := by decide +kernel
theorem dX9_toppleOf_28 : decode cX9_toppleOf 28 = .ok (.iload_n 2, 1) := by decide +kernel
theorem dX9_toppleOf_29 : decode cX9_toppleOf 29 = .ok (.invokestatic 436, 3) := by decide +kernel
theorem dX9_toppleOf_32 : decode cX9_toppleOf 32 = .ok (.ifCond .eq 23, 3) := by decide +kernel
theorem dX9_toppleOf_35 : decode cX9_toppleOf 35 = .ok (.aload_n 0, 1) := by decide +kernel
theorem dX9_toppleOf_36 : decode cX9_toppleOf 36 = .ok (.iload_n 1, 1) := by decide +kernel
theorem dX9_toppleOf_37 : decode cX9_toppleOf 37 = .ok (.aload_n 0, 1) := by decide +kernel
theorem dX9_toppleOf_38 : decode cX9_toppleOf 38 = .ok (.getfield 76, 3) := by decide +kernel
theorem dX9_toppleOf_41 : decode cX9_toppleOf 41 = .ok (.iconst 1, 1) := by decide +kernel
theorem dX9_toppleOf_42 : decode cX9_toppleOf 42 = .ok (.iaload, 1) := by decide +kernel
theorem dX9_toppleOf_43 : decode cX9_toppleOf 43 = .ok (.iload_n 3, 1) := by decide +kernel
theorem dX9_toppleOf_44 : decode cX9_toppleOf 44 = .ok (.iconst (-1), 1) := by decide +kernel
theorem dX9_toppleOf_45 : decode cX9_toppleOf 45 = .ok (.ixor, 1) := by decide +kernel
theorem dX9_toppleOf_46 : decode cX9_toppleOf 46 = .ok (.iand, 1) := by decide +kernel
theorem dX9_toppleOf_47 : decode cX9_toppleOf 47 = .ok (.invokevirtual 439, 3) := by decide +kernel
theorem dX9_toppleOf_50 : decode cX9_toppleOf 50 = .ok (.ifCond .ne 5, 3) := by decide +kernel
theorem dX9_toppleOf_53 : decode cX9_toppleOf 53 = .ok (.iload_n 3, 1) := by decide +kernel
theorem dX9_toppleOf_54 : decode cX9_toppleOf 54 = .ok (.istore_n 2, 1) := by decide +kernel
theorem dX9_toppleOf_55 : decode cX9_toppleOf 55 = .ok (.iinc 3 1, 3) := by decide +kernel
theorem dX9_toppleOf_58 : decode cX9_toppleOf 58 = .ok (.goto (-54), 3) := by decide +kernel
theorem dX9_toppleOf_61 : decode cX9_toppleOf 61 = .ok (.iload_n 2, 1) := by decide +kernel
theorem dX9_toppleOf_62 : decode cX9_toppleOf 62 = .ok (.ireturn, 1) := by decide +kernel
set_option maxRecDepth 20000 in
theorem ggX9_topple_X9_isClaim : GoodIn wsX9_topple wsX9_isClaim := goodIn_r _ [5, 6, 7, 8, 9, 10, 4, 11, 12, 13, 14, 15, 16, 17, 18, 19, 122, 123, 124, 125, 126, 127, 128, 129, 130, 131, 132, 133, 134, 135, 136, 137, 138, 139, 140, 141, 142, 143, 144, 145, 146, 147, 148, 149, 150, 151, 152, 153, 154, 155, 156, 157, 158, 159, 160, 161, 162, 163, 164, 165, 166, 167, 168, 169, 170, 171, 172, 173, 174, 175, 176, 177, 178, 179, 180, 181, 182, 183, 184, 185] rfl rfl
set_option maxRecDepth 20000 in
theorem gX9_topple_X9_isClaim : GoodIn wsX9_topple (wsV RX9 390 RX9 yX9_isClaim wsX9_isClaim) := goodIn_app (goodIn_of _ (by decide +kernel)) ggX9_topple_X9_isClaim
set_option maxRecDepth 20000 in
theorem ggX9_topple_X9_isIn : GoodIn wsX9_topple wsX9_isIn := goodIn_r _ [19] rfl rfl
set_option maxRecDepth 20000 in
theorem gX9_topple_X9_isIn : GoodIn wsX9_topple (va_wsS RX9 346 yX9_isIn wsX9_isIn) := goodIn_app (goodIn_of _ (by decide +kernel)) ggX9_topple_X9_isIn
set_option maxRecDepth 20000 in
theorem ggX9_topple_X9_toppleOf : GoodIn wsX9_topple wsX9_toppleOf := goodIn_r _ [23, 24, 25, 26, 4, 27, 28, 29, 30, 31, 32, 33, 34, 35, 36, 37, 38, 39, 40, 41, 42, 43, 44, 45, 46, 47, 48, 49, 50, 51, 7, 52, 53, 54, 55, 56, 57, 58, 59, 60, 61, 62, 63, 64, 65, 66, 67, 68, 69, 70, 71, 72, 73, 74, 75, 76, 77, 78, 79, 80, 81, 82, 83, 84, 85, 86, 87, 88, 89, 90, 91, 92, 93, 94, 95, 96, 97, 98, 99, 100, 6, 101, 102, 103, 104, 105, 106, 107, 108, 109, 110, 12, 13, 14, 15, 16, 111, 112, 113, 114, 8, 9, 10, 11, 17, 18, 19, 1, 2, 3, 5, 115, 116, 117, 118, 122, 123, 124, 125, 126, 127, 128, 129, 130, 131, 132, 133, 134, 135, 136, 137, 138, 139, 140, 141, 142, 143, 144, 145, 146, 147, 148, 149, 150, 151, 152, 153, 154, 155, 156, 157, 158, 159, 160, 161, 162, 163, 164, 165, 166, 167, 168, 169, 170, 171, 172, 173, 174, 175, 176, 177, 178, 179, 180, 181, 182, 183, 184, 185] rfl rfl
set_option maxRecDepth 20000 in
theorem gX9_topple_X9_toppleOf : GoodIn wsX9_topple (wsV RX9 442 RX9 yX9_toppleOf wsX9_toppleOf) := goodIn_app (goodIn_of _ (by decide +kernel)) ggX9_topple_X9_toppleOf
set_option maxRecDepth 20000 in
theorem ggX9_topple_X9_toldOf : GoodIn wsX9_topple wsX9_toldOf := goodIn_r _ [121, 28, 29, 4, 30] rfl rfl
set_option maxRecDepth 20000 in
theorem gX9_topple_X9_toldOf : GoodIn wsX9_topple (va_wsS RX9 445 yX9_toldOf wsX9_toldOf) := goodIn_app (goodIn_of _ (by decide +kernel)) ggX9_topple_X9_toldOf
theorem dX9_topple_0 : decode cX9_topple 0 = .ok (.aload_n 0, 1) := by decide +kernel
theorem dX9_topple_1 : decode cX9_topple 1 = .ok (.iload_n 1, 1) := by decide +kernel
theorem dX9_topple_2 : decode cX9_topple 2 = .ok (.invokevirtual 390, 3) := by decide +kernel
theorem dX9_topple_5 : decode cX9_topple 5 = .ok (.ifCond .eq 24, 3) := by decide +kernel
theorem dX9_topple_8 : decode cX9_topple 8 = .ok (.iload_n 2, 1) := by decide +kernel
theorem dX9_topple_9 : decode cX9_topple 9 = .ok (.iconst 0, 1) := by decide +kernel
theorem dX9_topple_10 : decode cX9_topple 10 = .ok (.iconst 1, 1) := by decide +kernel
theorem dX9_topple_11 : decode cX9_topple 11 = .ok (.invokestatic 346, 3) := by decide +kernel
theorem dX9_topple_14 : decode cX9_topple 14 = .ok (.ifCond .eq 15, 3) := by decide +kernel
theorem dX9_topple_17 : decode cX9_topple 17 = .ok (.aload_n 0, 1) := by decide +kernel
theorem dX9_topple_18 : decode cX9_topple 18 = .ok (.iload_n 1, 1) := by decide +kernel
theorem dX9_topple_19 : decode cX9_topple 19 = .ok (.invokevirtual 442, 3) := by decide +kernel
theorem dX9_topple_22 : decode cX9_topple 22 = .ok (.iload_n 2, 1) := by decide +kernel
theorem dX9_topple_23 : decode cX9_topple 23 = .ok (.invokestatic 445, 3) := by decide +kernel
theorem dX9_topple_26 : decode cX9_topple 26 = .ok (.goto 4, 3) := by decide +kernel
theorem dX9_topple_29 : decode cX9_topple 29 = .ok (.iconst (-1), 1) := by decide +kernel
theorem dX9_topple_30 : decode cX9_topple 30 = .ok (.ireturn, 1) := by decide +kernel
set_option maxRecDepth 20000 in
theorem ggX9_propOf_X9_standNow : GoodIn wsX9_propOf wsX9_standNow := goodIn_r _ [6, 1, 7, 8, 9, 5, 10, 11, 12, 13, 14, 15, 16, 17, 18, 19, 20, 21, 22, 23, 24, 25, 26, 27, 28, 29, 30, 31, 32, 33, 34, 35, 36, 37, 38, 39, 40, 41, 42, 43, 44, 45, 46, 47, 48, 49, 50, 51, 52, 53, 54, 55, 56, 57, 58, 59, 60, 61, 62, 63, 64, 65, 66, 67, 68, 69, 70, 71, 72, 73, 74, 75, 76, 77, 78, 79, 80, 81, 82, 83, 84, 85, 86, 87, 88, 89, 90, 91, 92, 93, 94, 95, 96, 97, 98, 99, 100, 101, 102, 103, 104, 105, 106, 107, 119, 120, 121, 122, 123, 124, 125, 126, 127, 128, 129, 130, 131, 132, 133, 134, 135, 136, 137, 138, 139, 140, 141, 142, 143, 144, 145, 146, 147, 148, 149, 150, 151, 152, 153, 154, 155, 156, 157, 158, 159, 160, 161, 162, 163, 164, 165, 166, 167, 168, 169, 170, 171, 172, 173, 174, 175, 176, 177, 178, 179, 180, 181, 182] rfl rfl
set_option maxRecDepth 20000 in
theorem gX9_propOf_X9_standNow : GoodIn wsX9_propOf (wsV RX9 402 RX9 yX9_standNow wsX9_standNow) := goodIn_app (goodIn_of _ (by decide +kernel)) ggX9_propOf_X9_standNow
set_option maxRecDepth 20000 in
theorem ggX9_propOf_X9_bit : GoodIn wsX9_propOf wsX9_bit := goodIn_r _ [28] rfl rfl
set_option maxRecDepth 20000 in
theorem gX9_propOf_X9_bit : GoodIn wsX9_propOf (va_wsS RX9 245 yX9_bit wsX9_bit) := goodIn_app (goodIn_of _ (by decide +kernel)) ggX9_propOf_X9_bit
set_option maxRecDepth 20000 in
theorem ggX9_propOf_X9_isLess : GoodIn wsX9_propOf wsX9_isLess := goodIn_r _ [110, 54, 55, 5, 56] rfl rfl
set_option maxRecDepth 20000 in
theorem gX9_propOf_X9_isLess : GoodIn wsX9_propOf (va_wsS RX9 436 yX9_isLess wsX9_isLess) := goodIn_app (goodIn_of _ (by decide +kernel)) ggX9_propOf_X9_isLess
set_option maxRecDepth 20000 in
theorem ggX9_propOf_X9_doesStand : GoodIn wsX9_propOf wsX9_doesStand := goodIn_r _ [114, 115, 116, 117, 5, 118, 1, 7, 8, 9, 10, 11, 12, 13, 14, 15, 16, 17, 18, 19, 20, 21, 22, 23, 24, 25, 26, 27, 28, 29, 30, 31, 32, 33, 34, 35, 36, 37, 38, 39, 40, 41, 42, 43, 44, 45, 46, 47, 48, 49, 50, 51, 52, 53, 54, 55, 56, 57, 58, 59, 60, 61, 62, 63, 64, 65, 66, 67, 68, 69, 70, 71, 72, 73, 74, 75, 76, 77, 78, 79, 80, 81, 82, 83, 84, 85, 86, 87, 88, 89, 90, 91, 92, 93, 94, 95, 96, 97, 98, 99, 100, 101, 102, 103, 104, 105, 106, 107, 119, 120, 121, 122, 123, 124, 125, 126, 127, 128, 129, 130, 131, 132, 133, 134, 135, 136, 137, 138, 139, 140, 141, 142, 143, 144, 145, 146, 147, 148, 149, 150, 151, 152, 153, 154, 155, 156, 157, 158, 159, 160, 161, 162, 163, 164, 165, 166, 167, 168, 169, 170, 171, 172, 173, 174, 175, 176, 177, 178, 179, 180, 181, 182] rfl rfl
set_option maxRecDepth 20000 in
theorem gX9_propOf_X9_doesStand : GoodIn wsX9_propOf (wsV RX9 439 RX9 yX9_doesStand wsX9_doesStand) := goodIn_app (goodIn_of _ (by decide +kernel)) ggX9_propOf_X9_doesStand
theorem dX9_propOf_0 : decode cX9_propOf 0 = .ok (.aload_n 0, 1) := by decide +kernel
theorem dX9_propOf_1 : decode cX9_propOf 1 = .ok (.invokevirtual 402, 3) := by decide +kernel
theorem dX9_propOf_4 : decode cX9_propOf 4 = .ok (.iload_n 1, 1) := by decide +kernel
theorem dX9_propOf_5 : decode cX9_propOf 5 = .ok (.invokestatic 245, 3) := by decide +kernel
theorem dX9_propOf_8 : decode cX9_propOf 8 = .ok (.ifCond .ne 5, 3) := by decide +kernel
theorem dX9_propOf_11 : decode cX9_propOf 11 = .ok (.iconst (-1), 1) := by decide +kernel
theorem dX9_propOf_12 : decode cX9_propOf 12 = .ok (.ireturn, 1) := by decide +kernel
theorem dX9_propOf_13 : decode cX9_propOf 13 = .ok (.iconst (-1), 1) := by decide +kernel
theorem dX9_propOf_14 : decode cX9_propOf 14 = .ok (.istore_n 2, 1) := by decide +kernel
theorem dX9_propOf_15 : decode cX9_propOf 15 = .ok (.iconst 0, 1) := by decide +kernel
theorem dX9_propOf_16 : decode cX9_propOf 16 = .ok (.istore_n 3, 1) := by decide +kernel
theorem dX9_propOf_17 : decode cX9_propOf 17 = .ok (.iload_n 3, 1) := by decide +kernel
theorem dX9_propOf_18 : decode cX9_propOf 18 = .ok (.aload_n 0, 1) := by decide +kernel
theorem dX9_propOf_19 : decode cX9_propOf 19 = .ok (.getfield 76, 3) := by decide +kernel
theorem dX9_propOf_22 : decode cX9_propOf 22 = .ok (.iconst 1, 1) := by decide +kernel
theorem dX9_propOf_23 : decode cX9_propOf 23 = .ok (.iaload, 1) := by decide +kernel
theorem dX9_propOf_24 : decode cX9_propOf 24 = .ok (.if_icmp .gt 41, 3) := by decide +kernel
theorem dX9_propOf_27 : decode cX9_propOf 27 = .ok (.iload_n 3, 1) := by decide +kernel
theorem dX9_propOf_28 : decode cX9_propOf 28 = .ok (.aload_n 0, 1) := by decide +kernel
theorem dX9_propOf_29 : decode cX9_propOf 29 = .ok (.getfield 76, 3) := by decide +kernel
theorem dX9_propOf_32 : decode cX9_propOf 32 = .ok (.iconst 1, 1) := by decide +kernel
theorem dX9_propOf_33 : decode cX9_propOf 33 = .ok (.iaload, 1) := by decide +kernel
theorem dX9_propOf_34 : decode cX9_propOf 34 = .ok (.iconst (-1), 1) := by decide +kernel
theorem dX9_propOf_35 : decode cX9_propOf 35 = .ok (.ixor, 1) := by decide +kernel
theorem dX9_propOf_36 : decode cX9_propOf 36 = .ok (.iand, 1) := by decide +kernel
theorem dX9_propOf_37 : decode cX9_propOf 37 = .ok (.ifCond .ne 22, 3) := by decide +kernel
theorem dX9_propOf_40 : decode cX9_propOf 40 = .ok (.iload_n 3, 1) := by decide +kernel
theorem dX9_propOf_41 : decode cX9_propOf 41 = .ok (.iload_n 2, 1) := by decide +kernel
theorem dX9_propOf_42 : decode cX9_propOf 42 = .ok (.invokestatic 436, 3) := by decide +kernel
theorem dX9_propOf_45 : decode cX9_propOf 45 = .ok (.ifCond .eq 14, 3) := by decide +kernel
theorem dX9_propOf_48 : decode cX9_propOf 48 = .ok (.aload_n 0, 1) := by decide +kernel
theorem dX9_propOf_49 : decode cX9_propOf 49 = .ok (.iload_n 1, 1) := by decide +kernel
theorem dX9_propOf_50 : decode cX9_propOf 50 = .ok (.iload_n 3, 1) := by decide +kernel
theorem dX9_propOf_51 : decode cX9_propOf 51 = .ok (.invokevirtual 439, 3) := by decide +kernel
theorem dX9_propOf_54 : decode cX9_propOf 54 = .ok (.ifCond .eq 5, 3) := by decide +kernel
theorem dX9_propOf_57 : decode cX9_propOf 57 = .ok (.iload_n 3, 1) := by decide +kernel
theorem dX9_propOf_58 : decode cX9_propOf 58 = .ok (.istore_n 2, 1) := by decide +kernel
theorem dX9_propOf_59 : decode cX9_propOf 59 = .ok (.iinc 3 1, 3) := by decide +kernel
theorem dX9_propOf_62 : decode cX9_propOf 62 = .ok (.goto (-45), 3) := by decide +kernel
theorem dX9_propOf_65 : decode cX9_propOf 65 = .ok (.iload_n 2, 1) := by decide +kernel
theorem dX9_propOf_66 : decode cX9_propOf 66 = .ok (.ireturn, 1) := by decide +kernel
set_option maxRecDepth 20000 in
theorem ggX9_prop_X9_isClaim : GoodIn wsX9_prop wsX9_isClaim := goodIn_r _ [5, 6, 7, 8, 9, 10, 4, 11, 12, 13, 14, 15, 16, 17, 18, 19, 126, 127, 128, 129, 130, 131, 132, 133, 134, 135, 136, 137, 138, 139, 140, 141, 142, 143, 144, 145, 146, 147, 148, 149, 150, 151, 152, 153, 154, 155, 156, 157, 158, 159, 160, 161, 162, 163, 164, 165, 166, 167, 168, 169, 170, 171, 172, 173, 174, 175, 176, 177, 178, 179, 180, 181, 182, 183, 184, 185, 186, 187, 188, 189] rfl rfl
set_option maxRecDepth 20000 in
theorem gX9_prop_X9_isClaim : GoodIn wsX9_prop (wsV RX9 390 RX9 yX9_isClaim wsX9_isClaim) := goodIn_app (goodIn_of _ (by decide +kernel)) ggX9_prop_X9_isClaim
set_option maxRecDepth 20000 in
theorem ggX9_prop_X9_isIn : GoodIn wsX9_prop wsX9_isIn := goodIn_r _ [19] rfl rfl
set_option maxRecDepth 20000 in
theorem gX9_prop_X9_isIn : GoodIn wsX9_prop (va_wsS RX9 346 yX9_isIn wsX9_isIn) := goodIn_app (goodIn_of _ (by decide +kernel)) ggX9_prop_X9_isIn
set_option maxRecDepth 20000 in
theorem ggX9_prop_X9_propOf : GoodIn wsX9_prop wsX9_propOf := goodIn_r _ [23, 24, 25, 26, 27, 4, 28, 29, 30, 31, 32, 33, 34, 35, 36, 37, 38, 39, 40, 41, 7, 42, 43, 44, 45, 46, 47, 48, 49, 50, 51, 52, 53, 54, 55, 56, 57, 58, 59, 60, 61, 62, 63, 64, 65, 66, 67, 68, 69, 70, 71, 72, 73, 74, 75, 76, 77, 78, 79, 80, 81, 82, 83, 84, 85, 86, 87, 88, 89, 90, 91, 92, 93, 6, 94, 95, 96, 97, 98, 99, 100, 101, 102, 103, 12, 13, 14, 15, 16, 104, 105, 106, 107, 8, 9, 10, 11, 17, 18, 19, 1, 2, 3, 5, 108, 109, 110, 111, 112, 113, 114, 115, 116, 117, 118, 119, 120, 121, 122, 126, 127, 128, 129, 130, 131, 132, 133, 134, 135, 136, 137, 138, 139, 140, 141, 142, 143, 144, 145, 146, 147, 148, 149, 150, 151, 152, 153, 154, 155, 156, 157, 158, 159, 160, 161, 162, 163, 164, 165, 166, 167, 168, 169, 170, 171, 172, 173, 174, 175, 176, 177, 178, 179, 180, 181, 182, 183, 184, 185, 186, 187, 188, 189] rfl rfl
set_option maxRecDepth 20000 in
theorem gX9_prop_X9_propOf : GoodIn wsX9_prop (wsV RX9 448 RX9 yX9_propOf wsX9_propOf) := goodIn_app (goodIn_of _ (by decide +kernel)) ggX9_prop_X9_propOf
set_option maxRecDepth 20000 in
theorem ggX9_prop_X9_toldOf : GoodIn wsX9_prop wsX9_toldOf := goodIn_r _ [125, 75, 76, 4, 77] rfl rfl
set_option maxRecDepth 20000 in
theorem gX9_prop_X9_toldOf : GoodIn wsX9_prop (va_wsS RX9 445 yX9_toldOf wsX9_toldOf) := goodIn_app (goodIn_of _ (by decide +kernel)) ggX9_prop_X9_toldOf
theorem dX9_prop_0 : decode cX9_prop 0 = .ok (.aload_n 0, 1) := by decide +kernel
theorem dX9_prop_1 : decode cX9_prop 1 = .ok (.iload_n 1, 1) := by decide +kernel
theorem dX9_prop_2 : decode cX9_prop 2 = .ok (.invokevirtual 390, 3) := by decide +kernel
theorem dX9_prop_5 : decode cX9_prop 5 = .ok (.ifCond .eq 24, 3) := by decide +kernel
theorem dX9_prop_8 : decode cX9_prop 8 = .ok (.iload_n 2, 1) := by decide +kernel
theorem dX9_prop_9 : decode cX9_prop 9 = .ok (.iconst 0, 1) := by decide +kernel
theorem dX9_prop_10 : decode cX9_prop 10 = .ok (.iconst 1, 1) := by decide +kernel
theorem dX9_prop_11 : decode cX9_prop 11 = .ok (.invokestatic 346, 3) := by decide +kernel
theorem dX9_prop_14 : decode cX9_prop 14 = .ok (.ifCond .eq 15, 3) := by decide +kernel
theorem dX9_prop_17 : decode cX9_prop 17 = .ok (.aload_n 0, 1) := by decide +kernel
theorem dX9_prop_18 : decode cX9_prop 18 = .ok (.iload_n 1, 1) := by decide +kernel
theorem dX9_prop_19 : decode cX9_prop 19 = .ok (.invokevirtual 448, 3) := by decide +kernel
theorem dX9_prop_22 : decode cX9_prop 22 = .ok (.iload_n 2, 1) := by decide +kernel
theorem dX9_prop_23 : decode cX9_prop 23 = .ok (.invokestatic 445, 3) := by decide +kernel
theorem dX9_prop_26 : decode cX9_prop 26 = .ok (.goto 4, 3) := by decide +kernel
theorem dX9_prop_29 : decode cX9_prop 29 = .ok (.iconst (-1), 1) := by decide +kernel
theorem dX9_prop_30 : decode cX9_prop 30 = .ok (.ireturn, 1) := by decide +kernel
set_option maxRecDepth 20000 in
theorem ggX9_pivots_X9_isClaim : GoodIn wsX9_pivots wsX9_isClaim := goodIn_r _ [6, 7, 8, 9, 10, 11, 5, 12, 13, 14, 15, 16, 17, 18, 19, 20, 116, 117, 118, 119, 120, 121, 122, 123, 124, 125, 126, 127, 128, 129, 130, 131, 132, 133, 134, 135, 136, 137, 138, 139, 140, 141, 142, 143, 144, 145, 146, 147, 148, 149, 150, 151, 152, 153, 154, 155, 156, 157, 158, 159, 160, 161, 162, 163, 164, 165, 166, 167, 168, 169, 170, 171, 172, 173, 174, 175, 176, 177, 178, 179] rfl rfl
set_option maxRecDepth 20000 in
theorem gX9_pivots_X9_isClaim : GoodIn wsX9_pivots (wsV RX9 390 RX9 yX9_isClaim wsX9_isClaim) := goodIn_app (goodIn_of _ (by decide +kernel)) ggX9_pivots_X9_isClaim
set_option maxRecDepth 20000 in
theorem ggX9_pivots_X9_standNow : GoodIn wsX9_pivots wsX9_standNow := goodIn_r _ [24, 1, 25, 26, 27, 5, 28, 29, 30, 31, 32, 33, 34, 35, 36, 37, 8, 38, 39, 40, 41, 42, 43, 44, 45, 46, 47, 48, 49, 50, 51, 52, 53, 54, 55, 56, 57, 58, 59, 60, 61, 62, 63, 64, 65, 66, 67, 68, 69, 70, 71, 72, 73, 74, 75, 76, 77, 78, 79, 80, 81, 82, 83, 84, 85, 86, 87, 88, 89, 7, 90, 91, 92, 93, 94, 95, 96, 97, 98, 99, 13, 14, 15, 16, 17, 100, 101, 102, 103, 9, 10, 11, 12, 18, 19, 20, 2, 3, 4, 6, 104, 105, 106, 107, 116, 117, 118, 119, 120, 121, 122, 123, 124, 125, 126, 127, 128, 129, 130, 131, 132, 133, 134, 135, 136, 137, 138, 139, 140, 141, 142, 143, 144, 145, 146, 147, 148, 149, 150, 151, 152, 153, 154, 155, 156, 157, 158, 159, 160, 161, 162, 163, 164, 165, 166, 167, 168, 169, 170, 171, 172, 173, 174, 175, 176, 177, 178, 179] rfl rfl
set_option maxRecDepth 20000 in
theorem gX9_pivots_X9_standNow : GoodIn wsX9_pivots (wsV RX9 402 RX9 yX9_standNow wsX9_standNow) := goodIn_app (goodIn_of _ (by decide +kernel)) ggX9_pivots_X9_standNow
set_option maxRecDepth 20000 in
theorem ggX9_pivots_X9_bit : GoodIn wsX9_pivots wsX9_bit := goodIn_r _ [45] rfl rfl
set_option maxRecDepth 20000 in
theorem gX9_pivots_X9_bit : GoodIn wsX9_pivots (va_wsS RX9 245 yX9_bit wsX9_bit) := goodIn_app (goodIn_of _ (by decide +kernel)) ggX9_pivots_X9_bit
set_option maxRecDepth 20000 in
theorem ggX9_pivots_X9_threads : GoodIn wsX9_pivots wsX9_threads := goodIn_r _ [41, 42, 8, 116, 117, 118, 119, 120, 121, 122, 123, 124, 125, 126, 127, 128, 129, 130, 131, 132, 133, 134, 135, 136, 137, 138, 139, 140, 141, 142, 143, 144, 145, 146, 147, 148, 149, 150, 151, 152, 153, 154, 155, 156, 157, 158, 159, 160, 161, 162, 163, 164, 165, 166, 167, 168, 169, 170, 171, 172, 173, 174, 175, 176, 177, 178, 179] rfl rfl
set_option maxRecDepth 20000 in
theorem gX9_pivots_X9_threads : GoodIn wsX9_pivots (wsV RX9 350 RX9 yX9_threads wsX9_threads) := goodIn_app (goodIn_of _ (by decide +kernel)) ggX9_pivots_X9_threads
set_option maxRecDepth 20000 in
theorem ggX9_pivots_X9_doesStand : GoodIn wsX9_pivots wsX9_doesStand := goodIn_r _ [111, 112, 113, 114, 5, 115, 1, 25, 26, 27, 28, 29, 30, 31, 32, 33, 34, 35, 36, 37, 8, 38, 39, 40, 41, 42, 43, 44, 45, 46, 47, 48, 49, 50, 51, 52, 53, 54, 55, 56, 57, 58, 59, 60, 61, 62, 63, 64, 65, 66, 67, 68, 69, 70, 71, 72, 73, 74, 75, 76, 77, 78, 79, 80, 81, 82, 83, 84, 85, 86, 87, 88, 89, 7, 90, 91, 92, 93, 94, 95, 96, 97, 98, 99, 13, 14, 15, 16, 17, 100, 101, 102, 103, 9, 10, 11, 12, 18, 19, 20, 2, 3, 4, 6, 104, 105, 106, 107, 116, 117, 118, 119, 120, 121, 122, 123, 124, 125, 126, 127, 128, 129, 130, 131, 132, 133, 134, 135, 136, 137, 138, 139, 140, 141, 142, 143, 144, 145, 146, 147, 148, 149, 150, 151, 152, 153, 154, 155, 156, 157, 158, 159, 160, 161, 162, 163, 164, 165, 166, 167, 168, 169, 170, 171, 172, 173, 174, 175, 176, 177, 178, 179] rfl rfl
set_option maxRecDepth 20000 in
theorem gX9_pivots_X9_doesStand : GoodIn wsX9_pivots (wsV RX9 439 RX9 yX9_doesStand wsX9_doesStand) := goodIn_app (goodIn_of _ (by decide +kernel)) ggX9_pivots_X9_doesStand
theorem dX9_pivots_0 : decode cX9_pivots 0 = .ok (.aload_n 0, 1) := by decide +kernel
theorem dX9_pivots_1 : decode cX9_pivots 1 = .ok (.iload_n 1, 1) := by decide +kernel
theorem dX9_pivots_2 : decode cX9_pivots 2 = .ok (.invokevirtual 390, 3) := by decide +kernel
theorem dX9_pivots_5 : decode cX9_pivots 5 = .ok (.ifCond .ne 5, 3) := by decide +kernel
theorem dX9_pivots_8 : decode cX9_pivots 8 = .ok (.iconst (-1), 1) := by decide +kernel
theorem dX9_pivots_9 : decode cX9_pivots 9 = .ok (.ireturn, 1) := by decide +kernel
theorem dX9_pivots_10 : decode cX9_pivots 10 = .ok (.iconst 0, 1) := by decide +kernel
theorem dX9_pivots_11 : decode cX9_pivots 11 = .ok (.istore_n 2, 1) := by decide +kernel
theorem dX9_pivots_12 : decode cX9_pivots 12 = .ok (.aload_n 0, 1) := by decide +kernel
theorem dX9_pivots_13 : decode cX9_pivots 13 = .ok (.invokevirtual 402, 3) := by decide +kernel
theorem dX9_pivots_16 : decode cX9_pivots 16 = .ok (.iload_n 1, 1) := by decide +kernel
theorem dX9_pivots_17 : decode cX9_pivots 17 = .ok (.invokestatic 245, 3) := by decide +kernel
theorem dX9_pivots_20 : decode cX9_pivots 20 = .ok (.istore_n 3, 1) := by decide +kernel
theorem dX9_pivots_21 : decode cX9_pivots 21 = .ok (.iconst 0, 1) := by decide +kernel
theorem dX9_pivots_22 : decode cX9_pivots 22 = .ok (.istore 4, 2) := by decide +kernel
theorem dX9_pivots_24 : decode cX9_pivots 24 = .ok (.iload 4, 2) := by decide +kernel
theorem dX9_pivots_26 : decode cX9_pivots 26 = .ok (.aload_n 0, 1) := by decide +kernel
theorem dX9_pivots_27 : decode cX9_pivots 27 = .ok (.invokevirtual 350, 3) := by decide +kernel
theorem dX9_pivots_30 : decode cX9_pivots 30 = .ok (.if_icmp .ge 55, 3) := by decide +kernel
theorem dX9_pivots_33 : decode cX9_pivots 33 = .ok (.iload_n 3, 1) := by decide +kernel
theorem dX9_pivots_34 : decode cX9_pivots 34 = .ok (.ifCond .eq 45, 3) := by decide +kernel
theorem dX9_pivots_37 : decode cX9_pivots 37 = .ok (.aload_n 0, 1) := by decide +kernel
theorem dX9_pivots_38 : decode cX9_pivots 38 = .ok (.getfield 76, 3) := by decide +kernel
theorem dX9_pivots_41 : decode cX9_pivots 41 = .ok (.iconst 1, 1) := by decide +kernel
theorem dX9_pivots_42 : decode cX9_pivots 42 = .ok (.iaload, 1) := by decide +kernel
theorem dX9_pivots_43 : decode cX9_pivots 43 = .ok (.iload 4, 2) := by decide +kernel
theorem dX9_pivots_45 : decode cX9_pivots 45 = .ok (.invokestatic 245, 3) := by decide +kernel
theorem dX9_pivots_48 : decode cX9_pivots 48 = .ok (.ifCond .eq 31, 3) := by decide +kernel
theorem dX9_pivots_51 : decode cX9_pivots 51 = .ok (.aload_n 0, 1) := by decide +kernel
theorem dX9_pivots_52 : decode cX9_pivots 52 = .ok (.iload_n 1, 1) := by decide +kernel
theorem dX9_pivots_53 : decode cX9_pivots 53 = .ok (.aload_n 0, 1) := by decide +kernel
theorem dX9_pivots_54 : decode cX9_pivots 54 = .ok (.getfield 76, 3) := by decide +kernel
theorem dX9_pivots_57 : decode cX9_pivots 57 = .ok (.iconst 1, 1) := by decide +kernel
theorem dX9_pivots_58 : decode cX9_pivots 58 = .ok (.iaload, 1) := by decide +kernel
theorem dX9_pivots_59 : decode cX9_pivots 59 = .ok (.iconst 1, 1) := by decide +kernel
theorem dX9_pivots_60 : decode cX9_pivots 60 = .ok (.iload 4, 2) := by decide +kernel
theorem dX9_pivots_62 : decode cX9_pivots 62 = .ok (.ishl, 1) := by decide +kernel
theorem dX9_pivots_63 : decode cX9_pivots 63 = .ok (.iconst (-1), 1) := by decide +kernel
theorem dX9_pivots_64 : decode cX9_pivots 64 = .ok (.ixor, 1) := by decide +kernel
theorem dX9_pivots_65 : decode cX9_pivots 65 = .ok (.iand, 1) := by decide +kernel
theorem dX9_pivots_66 : decode cX9_pivots 66 = .ok (.invokevirtual 439, 3) := by decide +kernel
theorem dX9_pivots_69 : decode cX9_pivots 69 = .ok (.ifCond .ne 10, 3) := by decide +kernel
theorem dX9_pivots_72 : decode cX9_pivots 72 = .ok (.iload_n 2, 1) := by decide +kernel
theorem dX9_pivots_73 : decode cX9_pivots 73 = .ok (.iconst 1, 1) := by decide +kernel
theorem dX9_pivots_74 : decode cX9_pivots 74 = .ok (.iload 4, 2) := by decide +kernel
theorem dX9_pivots_76 : decode cX9_pivots 76 = .ok (.ishl, 1) := by decide +kernel
theorem dX9_pivots_77 : decode cX9_pivots 77 = .ok (.ior, 1) := by decide +kernel
theorem dX9_pivots_78 : decode cX9_pivots 78 = .ok (.istore_n 2, 1) := by decide +kernel
theorem dX9_pivots_79 : decode cX9_pivots 79 = .ok (.iinc 4 1, 3) := by decide +kernel
theorem dX9_pivots_82 : decode cX9_pivots 82 = .ok (.goto (-58), 3) := by decide +kernel
theorem dX9_pivots_85 : decode cX9_pivots 85 = .ok (.iload_n 2, 1) := by decide +kernel
theorem dX9_pivots_86 : decode cX9_pivots 86 = .ok (.ireturn, 1) := by decide +kernel
set_option maxRecDepth 20000 in
theorem ggX9_power_X9_isClaim : GoodIn wsX9_power wsX9_isClaim := goodIn_r _ [6, 7, 8, 9, 10, 11, 5, 12, 13, 14, 15, 16, 17, 18, 19, 20, 116, 117, 118, 119, 120, 121, 122, 123, 124, 125, 126, 127, 128, 129, 130, 131, 132, 133, 134, 135, 136, 137, 138, 139, 140, 141, 142, 143, 144, 145, 146, 147, 148, 149, 150, 151, 152, 153, 154, 155, 156, 157, 158, 159, 160, 161, 162, 163, 164, 165, 166, 167, 168, 169, 170, 171, 172, 173, 174, 175, 176, 177, 178, 179] rfl rfl
set_option maxRecDepth 20000 in
theorem gX9_power_X9_isClaim : GoodIn wsX9_power (wsV RX9 390 RX9 yX9_isClaim wsX9_isClaim) := goodIn_app (goodIn_of _ (by decide +kernel)) ggX9_power_X9_isClaim
set_option maxRecDepth 20000 in
theorem ggX9_power_X9_isThread : GoodIn wsX9_power wsX9_isThread := goodIn_r _ [24, 25, 26, 27, 5, 28, 29, 8, 18, 19, 20, 116, 117, 118, 119, 120, 121, 122, 123, 124, 125, 126, 127, 128, 129, 130, 131, 132, 133, 134, 135, 136, 137, 138, 139, 140, 141, 142, 143, 144, 145, 146, 147, 148, 149, 150, 151, 152, 153, 154, 155, 156, 157, 158, 159, 160, 161, 162, 163, 164, 165, 166, 167, 168, 169, 170, 171, 172, 173, 174, 175, 176, 177, 178, 179] rfl rfl
set_option maxRecDepth 20000 in
theorem gX9_power_X9_isThread : GoodIn wsX9_power (wsV RX9 408 RX9 yX9_isThread wsX9_isThread) := goodIn_app (goodIn_of _ (by decide +kernel)) ggX9_power_X9_isThread
set_option maxRecDepth 20000 in
theorem ggX9_power_X9_bit : GoodIn wsX9_power wsX9_bit := goodIn_r _ [32] rfl rfl
set_option maxRecDepth 20000 in
theorem gX9_power_X9_bit : GoodIn wsX9_power (va_wsS RX9 245 yX9_bit wsX9_bit) := goodIn_app (goodIn_of _ (by decide +kernel)) ggX9_power_X9_bit
set_option maxRecDepth 20000 in
theorem ggX9_power_X9_doesStand : GoodIn wsX9_power wsX9_doesStand := goodIn_r _ [36, 37, 38, 39, 5, 40, 1, 41, 42, 43, 44, 45, 46, 47, 48, 49, 50, 51, 52, 53, 8, 25, 26, 27, 28, 29, 30, 31, 32, 54, 55, 56, 57, 58, 59, 60, 61, 62, 63, 64, 65, 66, 67, 68, 69, 70, 71, 72, 73, 74, 75, 76, 77, 78, 79, 80, 81, 82, 83, 84, 85, 86, 87, 88, 89, 90, 91, 92, 93, 94, 95, 96, 97, 7, 98, 99, 100, 101, 102, 103, 104, 105, 106, 107, 13, 14, 15, 16, 17, 108, 109, 110, 111, 9, 10, 11, 12, 18, 19, 20, 2, 3, 4, 6, 112, 113, 114, 115, 116, 117, 118, 119, 120, 121, 122, 123, 124, 125, 126, 127, 128, 129, 130, 131, 132, 133, 134, 135, 136, 137, 138, 139, 140, 141, 142, 143, 144, 145, 146, 147, 148, 149, 150, 151, 152, 153, 154, 155, 156, 157, 158, 159, 160, 161, 162, 163, 164, 165, 166, 167, 168, 169, 170, 171, 172, 173, 174, 175, 176, 177, 178, 179] rfl rfl
set_option maxRecDepth 20000 in
theorem gX9_power_X9_doesStand : GoodIn wsX9_power (wsV RX9 439 RX9 yX9_doesStand wsX9_doesStand) := goodIn_app (goodIn_of _ (by decide +kernel)) ggX9_power_X9_doesStand
theorem dX9_power_0 : decode cX9_power 0 = .ok (.aload_n 0, 1) := by decide +kernel
theorem dX9_power_1 : decode cX9_power 1 = .ok (.iload_n 1, 1) := by decide +kernel
theorem dX9_power_2 : decode cX9_power 2 = .ok (.invokevirtual 390, 3) := by decide +kernel
theorem dX9_power_5 : decode cX9_power 5 = .ok (.ifCond .eq 24, 3) := by decide +kernel
theorem dX9_power_8 : decode cX9_power 8 = .ok (.aload_n 0, 1) := by decide +kernel
theorem dX9_power_9 : decode cX9_power 9 = .ok (.iload_n 2, 1) := by decide +kernel
theorem dX9_power_10 : decode cX9_power 10 = .ok (.invokevirtual 408, 3) := by decide +kernel
theorem dX9_power_13 : decode cX9_power 13 = .ok (.ifCond .eq 16, 3) := by decide +kernel
theorem dX9_power_16 : decode cX9_power 16 = .ok (.aload_n 0, 1) := by decide +kernel
theorem dX9_power_17 : decode cX9_power 17 = .ok (.getfield 76, 3) := by decide +kernel
theorem dX9_power_20 : decode cX9_power 20 = .ok (.iconst 1, 1) := by decide +kernel
theorem dX9_power_21 : decode cX9_power 21 = .ok (.iaload, 1) := by decide +kernel
theorem dX9_power_22 : decode cX9_power 22 = .ok (.iload_n 2, 1) := by decide +kernel
theorem dX9_power_23 : decode cX9_power 23 = .ok (.invokestatic 245, 3) := by decide +kernel
theorem dX9_power_26 : decode cX9_power 26 = .ok (.ifCond .ne 5, 3) := by decide +kernel
theorem dX9_power_29 : decode cX9_power 29 = .ok (.iconst (-1), 1) := by decide +kernel
theorem dX9_power_30 : decode cX9_power 30 = .ok (.ireturn, 1) := by decide +kernel
theorem dX9_power_31 : decode cX9_power 31 = .ok (.iconst 0, 1) := by decide +kernel
theorem dX9_power_32 : decode cX9_power 32 = .ok (.istore_n 3, 1) := by decide +kernel
theorem dX9_power_33 : decode cX9_power 33 = .ok (.iconst 0, 1) := by decide +kernel
theorem dX9_power_34 : decode cX9_power 34 = .ok (.istore 4, 2) := by decide +kernel
theorem dX9_power_36 : decode cX9_power 36 = .ok (.iload 4, 2) := by decide +kernel
theorem dX9_power_38 : decode cX9_power 38 = .ok (.aload_n 0, 1) := by decide +kernel
theorem dX9_power_39 : decode cX9_power 39 = .ok (.getfield 76, 3) := by decide +kernel
theorem dX9_power_42 : decode cX9_power 42 = .ok (.iconst 1, 1) := by decide +kernel
theorem dX9_power_43 : decode cX9_power 43 = .ok (.iaload, 1) := by decide +kernel
theorem dX9_power_44 : decode cX9_power 44 = .ok (.if_icmp .gt 61, 3) := by decide +kernel
theorem dX9_power_47 : decode cX9_power 47 = .ok (.iload 4, 2) := by decide +kernel
theorem dX9_power_49 : decode cX9_power 49 = .ok (.aload_n 0, 1) := by decide +kernel
theorem dX9_power_50 : decode cX9_power 50 = .ok (.getfield 76, 3) := by decide +kernel
theorem dX9_power_53 : decode cX9_power 53 = .ok (.iconst 1, 1) := by decide +kernel
theorem dX9_power_54 : decode cX9_power 54 = .ok (.iaload, 1) := by decide +kernel
theorem dX9_power_55 : decode cX9_power 55 = .ok (.iconst (-1), 1) := by decide +kernel
theorem dX9_power_56 : decode cX9_power 56 = .ok (.ixor, 1) := by decide +kernel
theorem dX9_power_57 : decode cX9_power 57 = .ok (.iand, 1) := by decide +kernel
theorem dX9_power_58 : decode cX9_power 58 = .ok (.ifCond .ne 41, 3) := by decide +kernel
theorem dX9_power_61 : decode cX9_power 61 = .ok (.iload 4, 2) := by decide +kernel
theorem dX9_power_63 : decode cX9_power 63 = .ok (.iload_n 2, 1) := by decide +kernel
theorem dX9_power_64 : decode cX9_power 64 = .ok (.invokestatic 245, 3) := by decide +kernel
theorem dX9_power_67 : decode cX9_power 67 = .ok (.ifCond .eq 32, 3) := by decide +kernel
theorem dX9_power_70 : decode cX9_power 70 = .ok (.aload_n 0, 1) := by decide +kernel
theorem dX9_power_71 : decode cX9_power 71 = .ok (.iload_n 1, 1) := by decide +kernel
theorem dX9_power_72 : decode cX9_power 72 = .ok (.iload 4, 2) := by decide +kernel
theorem dX9_power_74 : decode cX9_power 74 = .ok (.invokevirtual 439, 3) := by decide +kernel
theorem dX9_power_77 : decode cX9_power 77 = .ok (.ifCond .eq 22, 3) := by decide +kernel
theorem dX9_power_80 : decode cX9_power 80 = .ok (.aload_n 0, 1) := by decide +kernel
theorem dX9_power_81 : decode cX9_power 81 = .ok (.iload_n 1, 1) := by decide +kernel
theorem dX9_power_82 : decode cX9_power 82 = .ok (.iload 4, 2) := by decide +kernel
theorem dX9_power_84 : decode cX9_power 84 = .ok (.iconst 1, 1) := by decide +kernel
theorem dX9_power_85 : decode cX9_power 85 = .ok (.iload_n 2, 1) := by decide +kernel
theorem dX9_power_86 : decode cX9_power 86 = .ok (.ishl, 1) := by decide +kernel
theorem dX9_power_87 : decode cX9_power 87 = .ok (.iconst (-1), 1) := by decide +kernel
theorem dX9_power_88 : decode cX9_power 88 = .ok (.ixor, 1) := by decide +kernel
theorem dX9_power_89 : decode cX9_power 89 = .ok (.iand, 1) := by decide +kernel
theorem dX9_power_90 : decode cX9_power 90 = .ok (.invokevirtual 439, 3) := by decide +kernel
theorem dX9_power_93 : decode cX9_power 93 = .ok (.ifCond .ne 6, 3) := by decide +kernel
theorem dX9_power_96 : decode cX9_power 96 = .ok (.iinc 3 1, 3) := by decide +kernel
theorem dX9_power_99 : decode cX9_power 99 = .ok (.iinc 4 1, 3) := by decide +kernel
theorem dX9_power_102 : decode cX9_power 102 = .ok (.goto (-66), 3) := by decide +kernel
theorem dX9_power_105 : decode cX9_power 105 = .ok (.iload_n 3, 1) := by decide +kernel
theorem dX9_power_106 : decode cX9_power 106 = .ok (.ireturn, 1) := by decide +kernel
theorem in_X9_tight_X9 : ∀ w ∈ wsX90, w ∈ wsX9_tight := fun _ h => List.mem_cons_of_mem _ (List.mem_append_right _ h)
theorem in_X9_bringBack_X9 : ∀ w ∈ wsX90, w ∈ wsX9_bringBack := fun _ h => List.mem_cons_of_mem _ (List.mem_append_right _ h)
theorem in_X9_keepNow_X9 : ∀ w ∈ wsX90, w ∈ wsX9_keepNow := fun _ h => List.mem_cons_of_mem _ (List.mem_append_right _ h)
theorem in_X9_will_X9 : ∀ w ∈ wsX90, w ∈ wsX9_will := fun _ h => List.mem_cons_of_mem _ (List.mem_append_right _ h)
theorem in_X9_standWith_X9 : ∀ w ∈ wsX90, w ∈ wsX9_standWith := fun _ h => List.mem_cons_of_mem _ (List.mem_append_right _ h)
theorem in_X9_toppleOf_X9 : ∀ w ∈ wsX90, w ∈ wsX9_toppleOf := fun _ h => List.mem_cons_of_mem _ (List.mem_append_right _ h)
theorem in_X9_propOf_X9 : ∀ w ∈ wsX90, w ∈ wsX9_propOf := fun _ h => List.mem_cons_of_mem _ (List.mem_append_right _ h)
theorem in_X9_pivots_X9 : ∀ w ∈ wsX90, w ∈ wsX9_pivots := fun _ h => List.mem_cons_of_mem _ (List.mem_append_right _ h)
theorem in_X9_power_X9 : ∀ w ∈ wsX90, w ∈ wsX9_power := fun _ h => List.mem_cons_of_mem _ (List.mem_append_right _ h)
set_option maxHeartbeats 4000000 in
set_option maxRecDepth 100000 in
theorem s_X9_stands_0 (l : Launch) (B0 : Nat) (adK adV : Nat → Nat) (D : va_G) (cy : Nat → ClassId) (ad : Nat → Nat) (fr0 : Nat → va_E) (c_text : Nat → Int32) (m_taped : Int32) (m_size : Int32) (m_faultKind : Int32) (m_faultPlace : Int32) (m_at : Int32) (m_end : Int32) (m_token : Int32) (m_number : Int32) (m_name : Int64) (c_points : Nat → Int32) (c_strands : Nat → Int32) (c_units : Nat → Int32) (c_told : Nat → Int32) (c_ruleFrom : Nat → Int32) (c_ruleTo : Nat → Int32) (c_code : Nat → Int32) (c_eWhat : Nat → Int32) (c_eSign : Nat → Int32) (m_bank : Int32) (m_rb : Int32) (m_codes : Int32) (m_within : Int32) (m_piled : Int32) (m_unitsInRule : Int32) (m_askStrand : Int32) (m_askTied : Int32) (m_thoughtClaim : Int32) (m_thoughtNeed : Int32) (m_thoughtAll : Int32) (c_roundOf : Nat → Int32) (m_acts : Int32) (m_undone : Int32) (m_laid : Int32) (m_firstMove : Int32) (m_seens : Int32) (m_time : Int32) (m_waysNow : Int32) (m_fitting : Int32) (f : Nat → va_E) (hT : TYm ad cy fr0 c_text m_taped m_size m_faultKind m_faultPlace m_at m_end m_token m_number m_name c_points c_strands c_units c_told c_ruleFrom c_ruleTo c_code c_eWhat c_eSign m_bank m_rb m_codes m_within m_piled m_unitsInRule m_askStrand m_askTied m_thoughtClaim m_thoughtNeed m_thoughtAll c_roundOf m_acts m_undone m_laid m_firstMove m_seens m_time m_waysNow m_fitting f) (hCV : CVp c_told c_ruleFrom c_ruleTo c_code m_bank) (sz : Nat) : TtI l yX9_stands wsX9_stands 7 158 [.ref (ad 148)] B0 adK adV D cy ad f sz (fun (r : Int32) (g : Nat → va_E) => (0 ≤ r.toInt ∧ r.toInt ≤ 4095) ∧ (∃ (m_askStrand' : Int32) (m_askTied' : Int32) (c_roundOf' : Nat → Int32), TYm ad cy fr0 c_text m_taped m_size m_faultKind m_faultPlace m_at m_end m_token m_number m_name c_points c_strands c_units c_told c_ruleFrom c_ruleTo c_code c_eWhat c_eSign m_bank m_rb m_codes m_within m_piled m_unitsInRule m_askStrand' m_askTied' m_thoughtClaim m_thoughtNeed m_thoughtAll c_roundOf' m_acts m_undone m_laid m_firstMove m_seens m_time m_waysNow m_fitting g ∧ (0 ≤ m_askTied'.toInt ∧ m_askTied'.toInt ≤ 4095))) := by
  refine TtI.of (cc := cX9_stands) (maxL := 1) (ty := .int) (own := RX9) (by decide) rfl (Nat.le_of_ble_eq_true rfl) rfl ?_
  intro p e s m below meth c A ls hx hb hr hml hts hown hlk hK hE hP hD hS hA hAB hl
  have hl : lv_has ls 1 [(0, .ref (ad 148))] := hl
  refine st0 (fun H locs hP hS => ?_) hP hS
  refine lv_aload_n hx hb dX9_stands_0 rfl (lv_at hl 0 rfl) ?_
  obtain ⟨e16, h1, h2, h3, h4, h5, h6, h7, h8, h9, h10, h11, h12, h13, h14, h15⟩ := (show okX9 ad m_taped m_size m_faultKind m_faultPlace m_at m_end m_token m_number m_name m_bank m_rb m_codes m_within m_piled m_unitsInRule m_askStrand m_askTied m_thoughtClaim m_thoughtNeed m_thoughtAll m_acts m_undone m_laid m_firstMove m_seens m_time m_waysNow m_fitting 148 (f 148) from hT.1 148 (by decide))
  refine tVI (As := []) (rest := []) (i := 148) ⟨hx, hb, hml, hown, hts⟩ hK hE hP hD hS hA hAB (s_X9_standNow_0 l B0 adK adV D cy ad fr0 c_text m_taped m_size m_faultKind m_faultPlace m_at m_end m_token m_number m_name c_points c_strands c_units c_told c_ruleFrom c_ruleTo c_code c_eWhat c_eSign m_bank m_rb m_codes m_within m_piled m_unitsInRule m_askStrand m_askTied m_thoughtClaim m_thoughtNeed m_thoughtAll c_roundOf m_acts m_undone m_laid m_firstMove m_seens m_time m_waysNow m_fitting f hT hCV _) (cwV 0 hts gX9_stands_X9_standNow rfl rfl rfl (by decide +kernel) ⟨Nat.le_of_ble_eq_true rfl, Nat.le_of_ble_eq_true rfl⟩) (by decide) 9 e16 rfl rfl hl.1 rfl (Nat.le_of_ble_eq_true rfl) dX9_stands_1 ⟨Nat.le_of_ble_eq_true rfl, Nat.le_of_ble_eq_true rfl⟩ (fun r f H locs hw hP hD hS => ?_)
  obtain ⟨hrs, x17, x18, y19, hT, h20⟩ := hw
  obtain ⟨x21, rfl⟩ : ∃ q, q = r := ⟨_, rfl⟩
  have h22 := hrs
  exact tI hx hb hr hlk rfl hP hS ⟨(by omega), ⟨x17, x18, y19, hT, by omega⟩⟩ dX9_stands_4
set_option maxHeartbeats 4000000 in
set_option maxRecDepth 100000 in
theorem s_X9_tight_0 (l : Launch) (B0 : Nat) (adK adV : Nat → Nat) (D : va_G) (cy : Nat → ClassId) (ad : Nat → Nat) (fr0 : Nat → va_E) (c_text : Nat → Int32) (m_taped : Int32) (m_size : Int32) (m_faultKind : Int32) (m_faultPlace : Int32) (m_at : Int32) (m_end : Int32) (m_token : Int32) (m_number : Int32) (m_name : Int64) (c_points : Nat → Int32) (c_strands : Nat → Int32) (c_units : Nat → Int32) (c_told : Nat → Int32) (c_ruleFrom : Nat → Int32) (c_ruleTo : Nat → Int32) (c_code : Nat → Int32) (c_eWhat : Nat → Int32) (c_eSign : Nat → Int32) (m_bank : Int32) (m_rb : Int32) (m_codes : Int32) (m_within : Int32) (m_piled : Int32) (m_unitsInRule : Int32) (m_askStrand : Int32) (m_askTied : Int32) (m_thoughtClaim : Int32) (m_thoughtNeed : Int32) (m_thoughtAll : Int32) (c_roundOf : Nat → Int32) (m_acts : Int32) (m_undone : Int32) (m_laid : Int32) (m_firstMove : Int32) (m_seens : Int32) (m_time : Int32) (m_waysNow : Int32) (m_fitting : Int32) (f : Nat → va_E) (hT : TYm ad cy fr0 c_text m_taped m_size m_faultKind m_faultPlace m_at m_end m_token m_number m_name c_points c_strands c_units c_told c_ruleFrom c_ruleTo c_code c_eWhat c_eSign m_bank m_rb m_codes m_within m_piled m_unitsInRule m_askStrand m_askTied m_thoughtClaim m_thoughtNeed m_thoughtAll c_roundOf m_acts m_undone m_laid m_firstMove m_seens m_time m_waysNow m_fitting f) (hCV : CVp c_told c_ruleFrom c_ruleTo c_code m_bank) (sz : Nat) : TtI l yX9_tight wsX9_tight 5 112 [.ref (ad 148)] B0 adK adV D cy ad f sz (fun (r : Int32) (g : Nat → va_E) => (0 ≤ r.toInt ∧ r.toInt ≤ 4095) ∧ (∃ (m_askStrand' : Int32) (m_askTied' : Int32), TYm ad cy fr0 c_text m_taped m_size m_faultKind m_faultPlace m_at m_end m_token m_number m_name c_points c_strands c_units c_told c_ruleFrom c_ruleTo c_code c_eWhat c_eSign m_bank m_rb m_codes m_within m_piled m_unitsInRule m_askStrand' m_askTied' m_thoughtClaim m_thoughtNeed m_thoughtAll c_roundOf m_acts m_undone m_laid m_firstMove m_seens m_time m_waysNow m_fitting g ∧ (0 ≤ m_askTied'.toInt ∧ m_askTied'.toInt ≤ 4095))) := by
  refine TtI.of (cc := cX9_tight) (maxL := 4) (ty := .int) (own := RX9) (by decide) rfl (Nat.le_of_ble_eq_true rfl) rfl ?_
  intro p e s m below meth c A ls hx hb hr hml hts hown hlk hK hE hP hD hS hA hAB hl
  have hl : lv_has ls 4 [(0, .ref (ad 148))] := hl
  refine st0 (fun H locs hP hS => ?_) hP hS
  have j31 : ∀ (N : Nat) (f : Nat → va_E) (H : Heap) (locs : List Loc) (ls : Array Slot) (v31_l2 : Int32) (v31_l1 : Int32) (v31_p_m_askStrand : Int32) (v31_p_m_askTied : Int32), (11 - v31_l2.toInt ≤ (N : Int)) → (0 ≤ v31_l2.toInt ∧ v31_l2.toInt ≤ 10) → (0 ≤ v31_l1.toInt ∧ v31_l1.toInt ≤ 4095) → (0 ≤ v31_p_m_askTied.toInt ∧ v31_p_m_askTied.toInt ≤ 4095) → (TYm ad cy fr0 c_text m_taped m_size m_faultKind m_faultPlace m_at m_end m_token m_number m_name c_points c_strands c_units c_told c_ruleFrom c_ruleTo c_code c_eWhat c_eSign m_bank m_rb m_codes m_within m_piled m_unitsInRule v31_p_m_askStrand v31_p_m_askTied m_thoughtClaim m_thoughtNeed m_thoughtAll c_roundOf m_acts m_undone m_laid m_firstMove m_seens m_time m_waysNow m_fitting f) → (va_P D vwCl (wl ad f) H) → (va_D A (wl ad f)) → (va_S A s.heap H locs) → (lv_has ls 4 [(2, .int v31_l2), (1, .int v31_l1), (0, .ref (ad 148))]) → W p l e (rmO 5 112 0 0) s m ([.ref (ad 148)] : List Value).toArray below meth c H locs 0 0 (MQ below (va_Qi (fun (r : Int32) (g : Nat → va_E) => (0 ≤ r.toInt ∧ r.toInt ≤ 4095) ∧ (∃ (m_askStrand' : Int32) (m_askTied' : Int32), TYm ad cy fr0 c_text m_taped m_size m_faultKind m_faultPlace m_at m_end m_token m_number m_name c_points c_strands c_units c_told c_ruleFrom c_ruleTo c_code c_eWhat c_eSign m_bank m_rb m_codes m_within m_piled m_unitsInRule m_askStrand' m_askTied' m_thoughtClaim m_thoughtNeed m_thoughtAll c_roundOf m_acts m_undone m_laid m_firstMove m_seens m_time m_waysNow m_fitting g ∧ (0 ≤ m_askTied'.toInt ∧ m_askTied'.toInt ≤ 4095))) (fun g t => PstT D ad g t) A) ([.ref (ad 148)] : List Value).toArray s 0 0 A) (F0 m 31 ls []) := by
    intro N
    induction N with
    | zero => intro f H locs ls v31_l2 v31_l1 v31_p_m_askStrand v31_p_m_askTied hN hv31_l2 hv31_l1 hv31_p_m_askTied hT hP hD hS hl; exact absurd hN (by omega)
    | succ N ih31 =>
      intro f H locs ls v31_l2 v31_l1 v31_p_m_askStrand v31_p_m_askTied hN hv31_l2 hv31_l1 hv31_p_m_askTied hT hP hD hS hl
      have j41 : ∀ (N : Nat) (f : Nat → va_E) (H : Heap) (locs : List Loc) (ls : Array Slot) (v41_l3 : Int32) (v41_l1 : Int32), (11 - v41_l3.toInt ≤ (N : Int)) → (0 ≤ v41_l3.toInt ∧ v41_l3.toInt ≤ 10) → (0 ≤ v31_l2.toInt ∧ v31_l2.toInt ≤ 9) → (0 ≤ v41_l1.toInt ∧ v41_l1.toInt ≤ 4095) → (0 ≤ v31_p_m_askTied.toInt ∧ v31_p_m_askTied.toInt ≤ 4095) → (TYm ad cy fr0 c_text m_taped m_size m_faultKind m_faultPlace m_at m_end m_token m_number m_name c_points c_strands c_units c_told c_ruleFrom c_ruleTo c_code c_eWhat c_eSign m_bank m_rb m_codes m_within m_piled m_unitsInRule v31_p_m_askStrand v31_p_m_askTied m_thoughtClaim m_thoughtNeed m_thoughtAll c_roundOf m_acts m_undone m_laid m_firstMove m_seens m_time m_waysNow m_fitting f) → (va_P D vwCl (wl ad f) H) → (va_D A (wl ad f)) → (va_S A s.heap H locs) → (lv_has ls 4 [(3, .int v41_l3), (2, .int v31_l2), (1, .int v41_l1), (0, .ref (ad 148))]) → W p l e (rmO 5 112 0 0) s m ([.ref (ad 148)] : List Value).toArray below meth c H locs 0 0 (MQ below (va_Qi (fun (r : Int32) (g : Nat → va_E) => (0 ≤ r.toInt ∧ r.toInt ≤ 4095) ∧ (∃ (m_askStrand' : Int32) (m_askTied' : Int32), TYm ad cy fr0 c_text m_taped m_size m_faultKind m_faultPlace m_at m_end m_token m_number m_name c_points c_strands c_units c_told c_ruleFrom c_ruleTo c_code c_eWhat c_eSign m_bank m_rb m_codes m_within m_piled m_unitsInRule m_askStrand' m_askTied' m_thoughtClaim m_thoughtNeed m_thoughtAll c_roundOf m_acts m_undone m_laid m_firstMove m_seens m_time m_waysNow m_fitting g ∧ (0 ≤ m_askTied'.toInt ∧ m_askTied'.toInt ≤ 4095))) (fun g t => PstT D ad g t) A) ([.ref (ad 148)] : List Value).toArray s 0 0 A) (F0 m 41 ls []) := by
        intro N
        induction N with
        | zero => intro f H locs ls v41_l3 v41_l1 hN hv41_l3 hv41_l2 hv41_l1 hv41_p_m_askTied hT hP hD hS hl; exact absurd hN (by omega)
        | succ N ih41 =>
          intro f H locs ls v41_l3 v41_l1 hN hv41_l3 hv41_l2 hv41_l1 hv41_p_m_askTied hT hP hD hS hl
          have j79 : ∀ (f : Nat → va_E) (H : Heap) (locs : List Loc) (ls : Array Slot) (v79_l1 : Int32), (0 ≤ v41_l3.toInt ∧ v41_l3.toInt ≤ 9) → (0 ≤ v31_l2.toInt ∧ v31_l2.toInt ≤ 9) → (0 ≤ v79_l1.toInt ∧ v79_l1.toInt ≤ 4095) → (0 ≤ v31_p_m_askTied.toInt ∧ v31_p_m_askTied.toInt ≤ 4095) → (TYm ad cy fr0 c_text m_taped m_size m_faultKind m_faultPlace m_at m_end m_token m_number m_name c_points c_strands c_units c_told c_ruleFrom c_ruleTo c_code c_eWhat c_eSign m_bank m_rb m_codes m_within m_piled m_unitsInRule v31_p_m_askStrand v31_p_m_askTied m_thoughtClaim m_thoughtNeed m_thoughtAll c_roundOf m_acts m_undone m_laid m_firstMove m_seens m_time m_waysNow m_fitting f) → (va_P D vwCl (wl ad f) H) → (va_D A (wl ad f)) → (va_S A s.heap H locs) → (lv_has ls 4 [(3, .int v41_l3), (2, .int v31_l2), (1, .int v79_l1), (0, .ref (ad 148))]) → W p l e (rmO 5 112 0 0) s m ([.ref (ad 148)] : List Value).toArray below meth c H locs 0 0 (MQ below (va_Qi (fun (r : Int32) (g : Nat → va_E) => (0 ≤ r.toInt ∧ r.toInt ≤ 4095) ∧ (∃ (m_askStrand' : Int32) (m_askTied' : Int32), TYm ad cy fr0 c_text m_taped m_size m_faultKind m_faultPlace m_at m_end m_token m_number m_name c_points c_strands c_units c_told c_ruleFrom c_ruleTo c_code c_eWhat c_eSign m_bank m_rb m_codes m_within m_piled m_unitsInRule m_askStrand' m_askTied' m_thoughtClaim m_thoughtNeed m_thoughtAll c_roundOf m_acts m_undone m_laid m_firstMove m_seens m_time m_waysNow m_fitting g ∧ (0 ≤ m_askTied'.toInt ∧ m_askTied'.toInt ≤ 4095))) (fun g t => PstT D ad g t) A) ([.ref (ad 148)] : List Value).toArray s 0 0 A) (F0 m 79 ls []) := by
            intro f H locs ls v79_l1 hv79_l3 hv79_l2 hv79_l1 hv79_p_m_askTied hT hP hD hS hl
            obtain ⟨x1, ex1⟩ : ∃ q : Int32, q = v41_l3 + Int32.ofInt (1) := ⟨_, rfl⟩
            refine lv_iinc (v := x1) (lv' := [(3, .int x1), (2, .int v31_l2), (1, .int v79_l1), (0, .ref (ad 148))]) hx hb dX9_tight_79 hl (k := 0) rfl ex1.symm (by decide) rfl (fun ls hl => ?_)
            have hx1 := r_inc ex1 (by decide) (by omega) (by omega)
            refine lv_goto (tgt := 41) hx hb dX9_tight_82 (by decide) ?_
            exact ih41 f H locs ls x1 v79_l1 (by omega) (by omega) (by omega) (by omega) (by omega) hT hP hD hS (lv_sub hl [0, 1, 2, 3] rfl)
          refine lv_iload_n hx hb dX9_tight_41 rfl (lv_at hl 0 rfl) ?_
          refine lv_aload_n hx hb dX9_tight_42 rfl (lv_at hl 3 rfl) ?_
          obtain ⟨e17, h2, h3, h4, h5, h6, h7, h8, h9, h10, h11, h12, h13, h14, h15, h16⟩ := (show okX9 ad m_taped m_size m_faultKind m_faultPlace m_at m_end m_token m_number m_name m_bank m_rb m_codes m_within m_piled m_unitsInRule v31_p_m_askStrand v31_p_m_askTied m_thoughtClaim m_thoughtNeed m_thoughtAll m_acts m_undone m_laid m_firstMove m_seens m_time m_waysNow m_fitting 148 (f 148) from hT.1 148 (by decide))
          refine tVI (As := []) (rest := [.int v41_l3]) (i := 148) ⟨hx, hb, hml, hown, hts⟩ hK hE hP hD hS hA hAB (s_X9_many_0 l B0 adK adV D cy ad fr0 c_text m_taped m_size m_faultKind m_faultPlace m_at m_end m_token m_number m_name c_points c_strands c_units c_told c_ruleFrom c_ruleTo c_code c_eWhat c_eSign m_bank m_rb m_codes m_within m_piled m_unitsInRule v31_p_m_askStrand v31_p_m_askTied m_thoughtClaim m_thoughtNeed m_thoughtAll c_roundOf m_acts m_undone m_laid m_firstMove m_seens m_time m_waysNow m_fitting f hT _) (cwV 0 hts gX9_tight_X9_many rfl rfl rfl (by decide +kernel) ⟨Nat.le_of_ble_eq_true rfl, Nat.le_of_ble_eq_true rfl⟩) (by decide) 9 e17 rfl rfl hl.1 rfl (Nat.le_of_ble_eq_true rfl) dX9_tight_43 ⟨Nat.le_of_ble_eq_true rfl, Nat.le_of_ble_eq_true rfl⟩ (fun r g H locs hw hP hD hS => ?_)
          obtain ⟨hrs, rfl⟩ := hw
          obtain ⟨x18, rfl⟩ : ∃ q, q = r := ⟨_, rfl⟩
          have h19 := hrs
          refine lv_icmp_ge (tgt := 85) hx hb dX9_tight_46 (by decide) (fun c20 => ?_) (fun c20 => ?_)
          · have kc20 := c_le c20
            obtain ⟨x21, ex21⟩ : ∃ q : Int32, q = v31_l2 + Int32.ofInt (1) := ⟨_, rfl⟩
            refine lv_iinc (v := x21) (lv' := [(2, .int x21), (3, .int v41_l3), (1, .int v41_l1), (0, .ref (ad 148))]) hx hb dX9_tight_85 hl (k := 1) rfl ex21.symm (by decide) rfl (fun ls hl => ?_)
            have hx21 := r_inc ex21 (by decide) (by omega) (by omega)
            refine lv_goto (tgt := 31) hx hb dX9_tight_88 (by decide) ?_
            exact ih31 f H locs ls x21 v41_l1 v31_p_m_askStrand v31_p_m_askTied (by omega) (by omega) (by omega) (by omega) hT hP hD hS (lv_sub hl [0, 2, 3] rfl)
          · have kc20 := c_nle c20
            refine lv_aload_n hx hb dX9_tight_49 rfl (lv_at hl 3 rfl) ?_
            refine lv_iload_n hx hb dX9_tight_50 rfl (lv_at hl 0 rfl) ?_
            refine tVI (As := [.int v41_l3]) (rest := []) (i := 148) ⟨hx, hb, hml, hown, hts⟩ hK hE hP hD hS hA hAB (s_X9_isClaim_0 l B0 adK adV D cy ad fr0 c_text m_taped m_size m_faultKind m_faultPlace m_at m_end m_token m_number m_name c_points c_strands c_units c_told c_ruleFrom c_ruleTo c_code c_eWhat c_eSign m_bank m_rb m_codes m_within m_piled m_unitsInRule v31_p_m_askStrand v31_p_m_askTied m_thoughtClaim m_thoughtNeed m_thoughtAll c_roundOf m_acts m_undone m_laid m_firstMove m_seens m_time m_waysNow m_fitting f hT v41_l3 _) (cwV 1 hts gX9_tight_X9_isClaim rfl rfl rfl (by decide +kernel) ⟨Nat.le_of_ble_eq_true rfl, Nat.le_of_ble_eq_true rfl⟩) (by decide) 9 e17 rfl rfl hl.1 rfl (Nat.le_of_ble_eq_true rfl) dX9_tight_51 ⟨Nat.le_of_ble_eq_true rfl, Nat.le_of_ble_eq_true rfl⟩ (fun r g H locs hw hP hD hS => ?_)
            obtain ⟨hrs, rfl⟩ := hw
            obtain ⟨x22, rfl⟩ : ∃ q, q = r := ⟨_, rfl⟩
            rcases hrs with ⟨rfl, h23, h24⟩ | rfl
            · refine lv_if_eq (tgt := 79) hx hb dX9_tight_54 (by decide) (fun c => absurd c (by decide)) (fun _ => ?_)
              refine lv_aload_n hx hb dX9_tight_57 rfl (lv_at hl 3 rfl) ?_
              refine lv_iload_n hx hb dX9_tight_58 rfl (lv_at hl 0 rfl) ?_
              refine lv_iload_n hx hb dX9_tight_59 rfl (lv_at hl 2 rfl) ?_
              refine tVI (As := [.int v41_l3, .int v41_l1]) (rest := []) (i := 148) ⟨hx, hb, hml, hown, hts⟩ hK hE hP hD hS hA hAB (s_X9_borne_0 l B0 adK adV D cy ad fr0 c_text m_taped m_size m_faultKind m_faultPlace m_at m_end m_token m_number m_name c_points c_strands c_units c_told c_ruleFrom c_ruleTo c_code c_eWhat c_eSign m_bank m_rb m_codes m_within m_piled m_unitsInRule v31_p_m_askStrand v31_p_m_askTied m_thoughtClaim m_thoughtNeed m_thoughtAll c_roundOf m_acts m_undone m_laid m_firstMove m_seens m_time m_waysNow m_fitting f hT v41_l3 (by omega) v41_l1 (by omega) _) (cwV 2 hts gX9_tight_X9_borne rfl rfl rfl (by decide +kernel) ⟨Nat.le_of_ble_eq_true rfl, Nat.le_of_ble_eq_true rfl⟩) (by decide) 9 e17 rfl rfl hl.1 rfl (Nat.le_of_ble_eq_true rfl) dX9_tight_60 ⟨Nat.le_of_ble_eq_true rfl, Nat.le_of_ble_eq_true rfl⟩ (fun r g H locs hw hP hD hS => ?_)
              obtain ⟨hrs, rfl⟩ := hw
              obtain ⟨x25, rfl⟩ : ∃ q, q = r := ⟨_, rfl⟩
              have h26 := hrs
              refine lv_aload_n hx hb dX9_tight_63 rfl (lv_at hl 3 rfl) ?_
              refine lv_iload_n hx hb dX9_tight_64 rfl (lv_at hl 0 rfl) ?_
              refine tVI (As := [.int v41_l3]) (rest := [.int x25]) (i := 148) ⟨hx, hb, hml, hown, hts⟩ hK hE hP hD hS hA hAB (s_X9_needOf_0 l B0 adK adV D cy ad fr0 c_text m_taped m_size m_faultKind m_faultPlace m_at m_end m_token m_number m_name c_points c_strands c_units c_told c_ruleFrom c_ruleTo c_code c_eWhat c_eSign m_bank m_rb m_codes m_within m_piled m_unitsInRule v31_p_m_askStrand v31_p_m_askTied m_thoughtClaim m_thoughtNeed m_thoughtAll c_roundOf m_acts m_undone m_laid m_firstMove m_seens m_time m_waysNow m_fitting f hT v41_l3 (by omega) _) (cwV 1 hts gX9_tight_X9_needOf rfl rfl rfl (by decide +kernel) ⟨Nat.le_of_ble_eq_true rfl, Nat.le_of_ble_eq_true rfl⟩) (by decide) 9 e17 rfl rfl hl.1 rfl (Nat.le_of_ble_eq_true rfl) dX9_tight_65 ⟨Nat.le_of_ble_eq_true rfl, Nat.le_of_ble_eq_true rfl⟩ (fun r g H locs hw hP hD hS => ?_)
              obtain ⟨hrs, rfl⟩ := hw
              obtain ⟨x27, rfl⟩ : ∃ q, q = r := ⟨_, rfl⟩
              have h28 := hrs
              refine lv_icmp_ge (tgt := 79) hx hb dX9_tight_68 (by decide) (fun c29 => ?_) (fun c29 => ?_)
              · have kc29 := c_le c29
                exact j79 f H locs ls v41_l1 (by omega) (by omega) (by omega) (by omega) hT hP hD hS (lv_sub hl [0, 1, 2, 3] rfl)
              · have kc29 := c_nle c29
                refine lv_iload_n hx hb dX9_tight_71 rfl (lv_at hl 2 rfl) ?_
                refine lv_iconst (v := 1) hx hb dX9_tight_72 (by decide) ?_
                refine lv_iload_n hx hb dX9_tight_73 rfl (lv_at hl 0 rfl) ?_
                refine lv_ishl hx hb dX9_tight_74 ?_
                refine lv_topi (fun x30 ex30 => ?_)
                have hx30 := r_shl (K := 9) (M := 512) ex30 (by decide) (by decide) (by omega) (by omega)
                refine lv_iconst (v := (-1)) hx hb dX9_tight_75 (by decide) ?_
                refine lv_ixor hx hb dX9_tight_76 ?_
                refine lv_topi (fun x31 ex31 => ?_)
                refine lv_iand hx hb dX9_tight_77 ?_
                refine lv_topi (fun x32 ex32 => ?_)
                have hx32 := r_andl ex32 (by omega)
                refine lv_istore_n (lv' := [(1, .int x32), (3, .int v41_l3), (2, .int v31_l2), (0, .ref (ad 148))]) hx hb dX9_tight_78 rfl hl (by decide) rfl (fun ls hl => ?_)
                exact j79 f H locs ls x32 (by omega) (by omega) (by omega) (by omega) hT hP hD hS (lv_sub hl [1, 2, 0, 3] rfl)
            · refine lv_if_eq (tgt := 79) hx hb dX9_tight_54 (by decide) (fun _ => ?_) (fun c => absurd (by decide) c)
              exact j79 f H locs ls v41_l1 (by omega) (by omega) (by omega) (by omega) hT hP hD hS (lv_sub hl [0, 1, 2, 3] rfl)
      refine lv_iload_n hx hb dX9_tight_31 rfl (lv_at hl 0 rfl) ?_
      refine lv_aload_n hx hb dX9_tight_32 rfl (lv_at hl 2 rfl) ?_
      obtain ⟨e48, h33, h34, h35, h36, h37, h38, h39, h40, h41, h42, h43, h44, h45, h46, h47⟩ := (show okX9 ad m_taped m_size m_faultKind m_faultPlace m_at m_end m_token m_number m_name m_bank m_rb m_codes m_within m_piled m_unitsInRule v31_p_m_askStrand v31_p_m_askTied m_thoughtClaim m_thoughtNeed m_thoughtAll m_acts m_undone m_laid m_firstMove m_seens m_time m_waysNow m_fitting 148 (f 148) from hT.1 148 (by decide))
      refine tVI (As := []) (rest := [.int v31_l2]) (i := 148) ⟨hx, hb, hml, hown, hts⟩ hK hE hP hD hS hA hAB (s_X9_many_0 l B0 adK adV D cy ad fr0 c_text m_taped m_size m_faultKind m_faultPlace m_at m_end m_token m_number m_name c_points c_strands c_units c_told c_ruleFrom c_ruleTo c_code c_eWhat c_eSign m_bank m_rb m_codes m_within m_piled m_unitsInRule v31_p_m_askStrand v31_p_m_askTied m_thoughtClaim m_thoughtNeed m_thoughtAll c_roundOf m_acts m_undone m_laid m_firstMove m_seens m_time m_waysNow m_fitting f hT _) (cwV 0 hts gX9_tight_X9_many rfl rfl rfl (by decide +kernel) ⟨Nat.le_of_ble_eq_true rfl, Nat.le_of_ble_eq_true rfl⟩) (by decide) 9 e48 rfl rfl hl.1 rfl (Nat.le_of_ble_eq_true rfl) dX9_tight_33 ⟨Nat.le_of_ble_eq_true rfl, Nat.le_of_ble_eq_true rfl⟩ (fun r g H locs hw hP hD hS => ?_)
      obtain ⟨hrs, rfl⟩ := hw
      obtain ⟨x49, rfl⟩ : ∃ q, q = r := ⟨_, rfl⟩
      have h50 := hrs
      refine lv_icmp_ge (tgt := 91) hx hb dX9_tight_36 (by decide) (fun c51 => ?_) (fun c51 => ?_)
      · have kc51 := c_le c51
        refine lv_iload_n hx hb dX9_tight_91 rfl (lv_at hl 1 rfl) ?_
        exact tI hx hb hr hlk rfl hP hS ⟨(by omega), ⟨v31_p_m_askStrand, v31_p_m_askTied, hT, by omega⟩⟩ dX9_tight_92
      · have kc51 := c_nle c51
        refine lv_iconst (v := 0) hx hb dX9_tight_39 (by decide) ?_
        refine lv_istore_n (lv' := [(3, .int 0), (2, .int v31_l2), (1, .int v31_l1), (0, .ref (ad 148))]) hx hb dX9_tight_40 rfl hl (by decide) rfl (fun ls hl => ?_)
        have ttl_0 := tl_0
        exact j41 (Int.toNat (11 - (0 : Int32).toInt)) f H locs ls (0 : Int32) v31_l1 (by omega) (by omega) (by omega) (by omega) (by omega) hT hP hD hS (lv_sub hl [0, 1, 2, 3] rfl)
  refine lv_aload_n hx hb dX9_tight_0 rfl (lv_at hl 0 rfl) ?_
  refine lv_aload_n hx hb dX9_tight_1 rfl (lv_at hl 0 rfl) ?_
  obtain ⟨e67, h52, h53, h54, h55, h56, h57, h58, h59, h60, h61, h62, h63, h64, h65, h66⟩ := (show okX9 ad m_taped m_size m_faultKind m_faultPlace m_at m_end m_token m_number m_name m_bank m_rb m_codes m_within m_piled m_unitsInRule m_askStrand m_askTied m_thoughtClaim m_thoughtNeed m_thoughtAll m_acts m_undone m_laid m_firstMove m_seens m_time m_waysNow m_fitting 148 (f 148) from hT.1 148 (by decide))
  refine va_get (D := D) (cl := vwCl) (ci := 9) (v := .ref (ad 169)) (C := RX9) (T := TX9) (N := 64) hx hb hts in_X9_tight_X9 hown hK hP 148 (wl_at (by decide) e67) rfl 37 (by decide) (hts (.fieldLink RX9 76 "EightReasonsModel" "all" "[I") (List.mem_of_getElem? (i := 1) rfl)) (fun _ h9 => h9) rfl dX9_tight_2 ?_
  refine lv_iconst (v := 1) hx hb dX9_tight_5 (by decide) ?_
  obtain ⟨g70, e68, h69⟩ := (show okIr cy 16 (0) (4095) 16 1 (f 169) from hT.1 169 (by decide))
  have ttl_1 := tl_1
  refine va_iald hx hb hK hP 169 0 (wl_at (by decide) e68) rfl (vin (by decide)) dX9_tight_6 ?_
  refine lv_topi (fun x71 ex71 => ?_)
  have hx71 := r_el (h69 _ (by decide)) ex71
  refine tVV (As := [.int x71]) (rest := []) (i := 148) ⟨hx, hb, hml, hown, hts⟩ hK hE hP hD hS hA hAB (s_X9_layWeights_0 l B0 adK adV D cy ad fr0 c_text m_taped m_size m_faultKind m_faultPlace m_at m_end m_token m_number m_name c_points c_strands c_units c_told c_ruleFrom c_ruleTo c_code c_eWhat c_eSign m_bank m_rb m_codes m_within m_piled m_unitsInRule m_askStrand m_askTied m_thoughtClaim m_thoughtNeed m_thoughtAll c_roundOf m_acts m_undone m_laid m_firstMove m_seens m_time m_waysNow m_fitting f hT x71 (by omega) hCV _) (cwV 1 hts gX9_tight_X9_layWeights rfl rfl rfl (by decide +kernel) ⟨Nat.le_of_ble_eq_true rfl, Nat.le_of_ble_eq_true rfl⟩) (by decide) 9 e67 rfl rfl hl.1 rfl (Nat.le_of_ble_eq_true rfl) dX9_tight_7 ⟨Nat.le_of_ble_eq_true rfl, Nat.le_of_ble_eq_true rfl⟩ (fun f H locs hw hP hD hS => ?_)
  obtain ⟨hrs, x72, x73, hT, h74⟩ := hw
  refine lv_aload_n hx hb dX9_tight_10 rfl (lv_at hl 0 rfl) ?_
  obtain ⟨e90, h75, h76, h77, h78, h79, h80, h81, h82, h83, h84, h85, h86, h87, h88, h89⟩ := (show okX9 ad m_taped m_size m_faultKind m_faultPlace m_at m_end m_token m_number m_name m_bank m_rb m_codes m_within m_piled m_unitsInRule x72 x73 m_thoughtClaim m_thoughtNeed m_thoughtAll m_acts m_undone m_laid m_firstMove m_seens m_time m_waysNow m_fitting 148 (f 148) from hT.1 148 (by decide))
  refine tVI (As := []) (rest := []) (i := 148) ⟨hx, hb, hml, hown, hts⟩ hK hE hP hD hS hA hAB (s_X9_facts_0 l B0 adK adV D cy ad fr0 c_text m_taped m_size m_faultKind m_faultPlace m_at m_end m_token m_number m_name c_points c_strands c_units c_told c_ruleFrom c_ruleTo c_code c_eWhat c_eSign m_bank m_rb m_codes m_within m_piled m_unitsInRule x72 x73 m_thoughtClaim m_thoughtNeed m_thoughtAll c_roundOf m_acts m_undone m_laid m_firstMove m_seens m_time m_waysNow m_fitting f hT _) (cwV 0 hts gX9_tight_X9_facts rfl rfl rfl (by decide +kernel) ⟨Nat.le_of_ble_eq_true rfl, Nat.le_of_ble_eq_true rfl⟩) (by decide) 9 e90 rfl rfl hl.1 rfl (Nat.le_of_ble_eq_true rfl) dX9_tight_11 ⟨Nat.le_of_ble_eq_true rfl, Nat.le_of_ble_eq_true rfl⟩ (fun r g H locs hw hP hD hS => ?_)
  obtain ⟨hrs, rfl⟩ := hw
  obtain ⟨x91, rfl⟩ : ∃ q, q = r := ⟨_, rfl⟩
  have h92 := hrs
  refine lv_aload_n hx hb dX9_tight_14 rfl (lv_at hl 0 rfl) ?_
  refine va_get (D := D) (cl := vwCl) (ci := 9) (v := .ref (ad 169)) (C := RX9) (T := TX9) (N := 64) hx hb hts in_X9_tight_X9 hown hK hP 148 (wl_at (by decide) e90) rfl 37 (by decide) (hts (.fieldLink RX9 76 "EightReasonsModel" "all" "[I") (List.mem_of_getElem? (i := 1) rfl)) (fun _ h9 => h9) rfl dX9_tight_15 ?_
  refine lv_iconst (v := 0) hx hb dX9_tight_18 (by decide) ?_
  obtain ⟨g95, e93, h94⟩ := (show okIr cy 16 (0) (4095) 16 1 (f 169) from hT.1 169 (by decide))
  have ttl_0 := tl_0
  refine va_iald hx hb hK hP 169 0 (wl_at (by decide) e93) rfl (vin (by decide)) dX9_tight_19 ?_
  refine lv_topi (fun x96 ex96 => ?_)
  refine lv_iconst (v := (-1)) hx hb dX9_tight_20 (by decide) ?_
  refine lv_ixor hx hb dX9_tight_21 ?_
  refine lv_topi (fun x97 ex97 => ?_)
  refine lv_iand hx hb dX9_tight_22 ?_
  refine lv_topi (fun x98 ex98 => ?_)
  have hx98 := r_andl ex98 (by omega)
  refine lv_aload_n hx hb dX9_tight_23 rfl (lv_at hl 0 rfl) ?_
  refine tVI (As := []) (rest := [.int x98]) (i := 148) ⟨hx, hb, hml, hown, hts⟩ hK hE hP hD hS hA hAB (s_X9_claims_0 l B0 adK adV D cy ad fr0 c_text m_taped m_size m_faultKind m_faultPlace m_at m_end m_token m_number m_name c_points c_strands c_units c_told c_ruleFrom c_ruleTo c_code c_eWhat c_eSign m_bank m_rb m_codes m_within m_piled m_unitsInRule x72 x73 m_thoughtClaim m_thoughtNeed m_thoughtAll c_roundOf m_acts m_undone m_laid m_firstMove m_seens m_time m_waysNow m_fitting f hT _) (cwV 0 hts gX9_tight_X9_claims rfl rfl rfl (by decide +kernel) ⟨Nat.le_of_ble_eq_true rfl, Nat.le_of_ble_eq_true rfl⟩) (by decide) 9 e90 rfl rfl hl.1 rfl (Nat.le_of_ble_eq_true rfl) dX9_tight_24 ⟨Nat.le_of_ble_eq_true rfl, Nat.le_of_ble_eq_true rfl⟩ (fun r g H locs hw hP hD hS => ?_)
  obtain ⟨hrs, rfl⟩ := hw
  obtain ⟨x99, rfl⟩ : ∃ q, q = r := ⟨_, rfl⟩
  have h100 := hrs
  refine lv_ior hx hb dX9_tight_27 ?_
  refine lv_topi (fun x101 ex101 => ?_)
  have hx101 := r_or (k := 12) (K := 4096) ex101 (by decide) (by decide) (by omega) (by omega) (by omega) (by omega)
  refine lv_istore_n (lv' := [(1, .int x101), (0, .ref (ad 148))]) hx hb dX9_tight_28 rfl hl (by decide) rfl (fun ls hl => ?_)
  refine lv_iconst (v := 0) hx hb dX9_tight_29 (by decide) ?_
  refine lv_istore_n (lv' := [(2, .int 0), (1, .int x101), (0, .ref (ad 148))]) hx hb dX9_tight_30 rfl hl (by decide) rfl (fun ls hl => ?_)
  exact j31 (Int.toNat (11 - (0 : Int32).toInt)) f H locs ls (0 : Int32) x101 x72 x73 (by omega) (by omega) (by omega) (by omega) hT hP hD hS (lv_sub hl [0, 1, 2] rfl)
set_option maxHeartbeats 4000000 in
set_option maxRecDepth 100000 in
theorem s_X9_hollow_0 (l : Launch) (B0 : Nat) (adK adV : Nat → Nat) (D : va_G) (cy : Nat → ClassId) (ad : Nat → Nat) (fr0 : Nat → va_E) (c_text : Nat → Int32) (m_taped : Int32) (m_size : Int32) (m_faultKind : Int32) (m_faultPlace : Int32) (m_at : Int32) (m_end : Int32) (m_token : Int32) (m_number : Int32) (m_name : Int64) (c_points : Nat → Int32) (c_strands : Nat → Int32) (c_units : Nat → Int32) (c_told : Nat → Int32) (c_ruleFrom : Nat → Int32) (c_ruleTo : Nat → Int32) (c_code : Nat → Int32) (c_eWhat : Nat → Int32) (c_eSign : Nat → Int32) (m_bank : Int32) (m_rb : Int32) (m_codes : Int32) (m_within : Int32) (m_piled : Int32) (m_unitsInRule : Int32) (m_askStrand : Int32) (m_askTied : Int32) (m_thoughtClaim : Int32) (m_thoughtNeed : Int32) (m_thoughtAll : Int32) (c_roundOf : Nat → Int32) (m_acts : Int32) (m_undone : Int32) (m_laid : Int32) (m_firstMove : Int32) (m_seens : Int32) (m_time : Int32) (m_waysNow : Int32) (m_fitting : Int32) (f : Nat → va_E) (hT : TYm ad cy fr0 c_text m_taped m_size m_faultKind m_faultPlace m_at m_end m_token m_number m_name c_points c_strands c_units c_told c_ruleFrom c_ruleTo c_code c_eWhat c_eSign m_bank m_rb m_codes m_within m_piled m_unitsInRule m_askStrand m_askTied m_thoughtClaim m_thoughtNeed m_thoughtAll c_roundOf m_acts m_undone m_laid m_firstMove m_seens m_time m_waysNow m_fitting f) (hCV : CVp c_told c_ruleFrom c_ruleTo c_code m_bank) (sz : Nat) : TtI l yX9_hollow wsX9_hollow 7 158 [.ref (ad 148)] B0 adK adV D cy ad f sz (fun (r : Int32) (g : Nat → va_E) => (0 ≤ r.toInt ∧ r.toInt ≤ 4095) ∧ (∃ (m_askStrand' : Int32) (m_askTied' : Int32) (c_roundOf' : Nat → Int32), TYm ad cy fr0 c_text m_taped m_size m_faultKind m_faultPlace m_at m_end m_token m_number m_name c_points c_strands c_units c_told c_ruleFrom c_ruleTo c_code c_eWhat c_eSign m_bank m_rb m_codes m_within m_piled m_unitsInRule m_askStrand' m_askTied' m_thoughtClaim m_thoughtNeed m_thoughtAll c_roundOf' m_acts m_undone m_laid m_firstMove m_seens m_time m_waysNow m_fitting g ∧ (0 ≤ m_askTied'.toInt ∧ m_askTied'.toInt ≤ 4095))) := by
  refine TtI.of (cc := cX9_hollow) (maxL := 2) (ty := .int) (own := RX9) (by decide) rfl (Nat.le_of_ble_eq_true rfl) rfl ?_
  intro p e s m below meth c A ls hx hb hr hml hts hown hlk hK hE hP hD hS hA hAB hl
  have hl : lv_has ls 2 [(0, .ref (ad 148))] := hl
  refine st0 (fun H locs hP hS => ?_) hP hS
  refine lv_aload_n hx hb dX9_hollow_0 rfl (lv_at hl 0 rfl) ?_
  obtain ⟨e16, h1, h2, h3, h4, h5, h6, h7, h8, h9, h10, h11, h12, h13, h14, h15⟩ := (show okX9 ad m_taped m_size m_faultKind m_faultPlace m_at m_end m_token m_number m_name m_bank m_rb m_codes m_within m_piled m_unitsInRule m_askStrand m_askTied m_thoughtClaim m_thoughtNeed m_thoughtAll m_acts m_undone m_laid m_firstMove m_seens m_time m_waysNow m_fitting 148 (f 148) from hT.1 148 (by decide))
  refine tVI (As := []) (rest := []) (i := 148) ⟨hx, hb, hml, hown, hts⟩ hK hE hP hD hS hA hAB (s_X9_tight_0 l B0 adK adV D cy ad fr0 c_text m_taped m_size m_faultKind m_faultPlace m_at m_end m_token m_number m_name c_points c_strands c_units c_told c_ruleFrom c_ruleTo c_code c_eWhat c_eSign m_bank m_rb m_codes m_within m_piled m_unitsInRule m_askStrand m_askTied m_thoughtClaim m_thoughtNeed m_thoughtAll c_roundOf m_acts m_undone m_laid m_firstMove m_seens m_time m_waysNow m_fitting f hT hCV _) (cwV 0 hts gX9_hollow_X9_tight rfl rfl rfl (by decide +kernel) ⟨Nat.le_of_ble_eq_true rfl, Nat.le_of_ble_eq_true rfl⟩) (by decide) 9 e16 rfl rfl hl.1 rfl (Nat.le_of_ble_eq_true rfl) dX9_hollow_1 ⟨Nat.le_of_ble_eq_true rfl, Nat.le_of_ble_eq_true rfl⟩ (fun r f H locs hw hP hD hS => ?_)
  obtain ⟨hrs, x17, x18, hT, h19⟩ := hw
  obtain ⟨x20, rfl⟩ : ∃ q, q = r := ⟨_, rfl⟩
  have h21 := hrs
  refine lv_istore_n (lv' := [(1, .int x20), (0, .ref (ad 148))]) hx hb dX9_hollow_4 rfl hl (by decide) rfl (fun ls hl => ?_)
  refine lv_iload_n hx hb dX9_hollow_5 rfl (lv_at hl 0 rfl) ?_
  refine lv_aload_n hx hb dX9_hollow_6 rfl (lv_at hl 1 rfl) ?_
  obtain ⟨e37, h22, h23, h24, h25, h26, h27, h28, h29, h30, h31, h32, h33, h34, h35, h36⟩ := (show okX9 ad m_taped m_size m_faultKind m_faultPlace m_at m_end m_token m_number m_name m_bank m_rb m_codes m_within m_piled m_unitsInRule x17 x18 m_thoughtClaim m_thoughtNeed m_thoughtAll m_acts m_undone m_laid m_firstMove m_seens m_time m_waysNow m_fitting 148 (f 148) from hT.1 148 (by decide))
  refine tVI (As := []) (rest := [.int x20]) (i := 148) ⟨hx, hb, hml, hown, hts⟩ hK hE hP hD hS hA hAB (s_X9_standNow_0 l B0 adK adV D cy ad fr0 c_text m_taped m_size m_faultKind m_faultPlace m_at m_end m_token m_number m_name c_points c_strands c_units c_told c_ruleFrom c_ruleTo c_code c_eWhat c_eSign m_bank m_rb m_codes m_within m_piled m_unitsInRule x17 x18 m_thoughtClaim m_thoughtNeed m_thoughtAll c_roundOf m_acts m_undone m_laid m_firstMove m_seens m_time m_waysNow m_fitting f hT hCV _) (cwV 0 hts gX9_hollow_X9_standNow rfl rfl rfl (by decide +kernel) ⟨Nat.le_of_ble_eq_true rfl, Nat.le_of_ble_eq_true rfl⟩) (by decide) 9 e37 rfl rfl hl.1 rfl (Nat.le_of_ble_eq_true rfl) dX9_hollow_7 ⟨Nat.le_of_ble_eq_true rfl, Nat.le_of_ble_eq_true rfl⟩ (fun r f H locs hw hP hD hS => ?_)
  obtain ⟨hrs, x38, x39, y40, hT, h41⟩ := hw
  obtain ⟨x42, rfl⟩ : ∃ q, q = r := ⟨_, rfl⟩
  have h43 := hrs
  refine lv_iconst (v := (-1)) hx hb dX9_hollow_10 (by decide) ?_
  refine lv_ixor hx hb dX9_hollow_11 ?_
  refine lv_topi (fun x44 ex44 => ?_)
  refine lv_iand hx hb dX9_hollow_12 ?_
  refine lv_topi (fun x45 ex45 => ?_)
  have hx45 := r_andl ex45 (by omega)
  exact tI hx hb hr hlk rfl hP hS ⟨(by omega), ⟨x38, x39, y40, hT, by omega⟩⟩ dX9_hollow_13
set_option maxHeartbeats 4000000 in
set_option maxRecDepth 100000 in
theorem s_X9_bringBack_0 (l : Launch) (B0 : Nat) (adK adV : Nat → Nat) (D : va_G) (cy : Nat → ClassId) (ad : Nat → Nat) (fr0 : Nat → va_E) (c_text : Nat → Int32) (m_taped : Int32) (m_size : Int32) (m_faultKind : Int32) (m_faultPlace : Int32) (m_at : Int32) (m_end : Int32) (m_token : Int32) (m_number : Int32) (m_name : Int64) (c_points : Nat → Int32) (c_strands : Nat → Int32) (c_units : Nat → Int32) (c_told : Nat → Int32) (c_ruleFrom : Nat → Int32) (c_ruleTo : Nat → Int32) (c_code : Nat → Int32) (c_eWhat : Nat → Int32) (c_eSign : Nat → Int32) (m_bank : Int32) (m_rb : Int32) (m_codes : Int32) (m_within : Int32) (m_piled : Int32) (m_unitsInRule : Int32) (m_askStrand : Int32) (m_askTied : Int32) (m_thoughtClaim : Int32) (m_thoughtNeed : Int32) (m_thoughtAll : Int32) (c_roundOf : Nat → Int32) (m_acts : Int32) (m_undone : Int32) (m_laid : Int32) (m_firstMove : Int32) (m_seens : Int32) (m_time : Int32) (m_waysNow : Int32) (m_fitting : Int32) (f : Nat → va_E) (hT : TYm ad cy fr0 c_text m_taped m_size m_faultKind m_faultPlace m_at m_end m_token m_number m_name c_points c_strands c_units c_told c_ruleFrom c_ruleTo c_code c_eWhat c_eSign m_bank m_rb m_codes m_within m_piled m_unitsInRule m_askStrand m_askTied m_thoughtClaim m_thoughtNeed m_thoughtAll c_roundOf m_acts m_undone m_laid m_firstMove m_seens m_time m_waysNow m_fitting f) (sz : Nat) : TtV l yX9_bringBack wsX9_bringBack 0 0 [.ref (ad 148)] B0 adK adV D cy ad f sz (fun (g : Nat → va_E) => True ∧ (TYm ad cy fr0 c_text m_taped m_size m_faultKind m_faultPlace m_at m_end m_token m_number m_name c_points c_strands c_units c_told c_ruleFrom c_ruleTo c_code c_eWhat c_eSign m_bank m_rb m_codes m_within m_piled m_unitsInRule m_askStrand m_askTied m_thoughtClaim m_thoughtNeed m_thoughtAll c_roundOf m_acts m_undone m_laid m_firstMove m_seens m_time m_waysNow m_fitting g)) := by
  refine TtV.of (cc := cX9_bringBack) (maxL := 2) (own := RX9) (by decide) rfl (Nat.le_of_ble_eq_true rfl) rfl ?_
  intro p e s m below meth c A ls hx hb hr hml hts hown hlk hK hE hP hD hS hA hAB hl
  have hl : lv_has ls 2 [(0, .ref (ad 148))] := hl
  refine st0 (fun H locs hP hS => ?_) hP hS
  have j2 : ∀ (N : Nat) (f : Nat → va_E) (H : Heap) (locs : List Loc) (ls : Array Slot) (v2_l1 : Int32), (20 - v2_l1.toInt ≤ (N : Int)) → (0 ≤ v2_l1.toInt ∧ v2_l1.toInt ≤ 19) → (TYm ad cy fr0 c_text m_taped m_size m_faultKind m_faultPlace m_at m_end m_token m_number m_name c_points c_strands c_units c_told c_ruleFrom c_ruleTo c_code c_eWhat c_eSign m_bank m_rb m_codes m_within m_piled m_unitsInRule m_askStrand m_askTied m_thoughtClaim m_thoughtNeed m_thoughtAll c_roundOf m_acts m_undone m_laid m_firstMove m_seens m_time m_waysNow m_fitting f) → (va_P D vwCl (wl ad f) H) → (va_D A (wl ad f)) → (va_S A s.heap H locs) → (lv_has ls 2 [(1, .int v2_l1), (0, .ref (ad 148))]) → W p l e (rmO 0 0 0 0) s m ([.ref (ad 148)] : List Value).toArray below meth c H locs 0 0 (MQ below (va_Qv (fun (g : Nat → va_E) => True ∧ (TYm ad cy fr0 c_text m_taped m_size m_faultKind m_faultPlace m_at m_end m_token m_number m_name c_points c_strands c_units c_told c_ruleFrom c_ruleTo c_code c_eWhat c_eSign m_bank m_rb m_codes m_within m_piled m_unitsInRule m_askStrand m_askTied m_thoughtClaim m_thoughtNeed m_thoughtAll c_roundOf m_acts m_undone m_laid m_firstMove m_seens m_time m_waysNow m_fitting g)) (fun g t => PstT D ad g t) A) ([.ref (ad 148)] : List Value).toArray s 0 0 A) (F0 m 2 ls []) := by
    intro N
    induction N with
    | zero => intro f H locs ls v2_l1 hN hv2_l1 hT hP hD hS hl; exact absurd hN (by omega)
    | succ N ih2 =>
      intro f H locs ls v2_l1 hN hv2_l1 hT hP hD hS hl
      refine lv_iload_n hx hb dX9_bringBack_2 rfl (lv_at hl 0 rfl) ?_
      refine lv_bipush (v := 16) hx hb dX9_bringBack_3 (by decide) ?_
      have ttl_16 := tl_16
      refine lv_icmp_ge (tgt := 26) hx hb dX9_bringBack_5 (by decide) (fun c1 => ?_) (fun c1 => ?_)
      · have kc1 := c_le c1
        exact tV hx hb hr hlk hP hS ⟨trivial, hT⟩ dX9_bringBack_26
      · have kc1 := c_nle c1
        refine lv_aload_n hx hb dX9_bringBack_8 rfl (lv_at hl 1 rfl) ?_
        obtain ⟨e17, h2, h3, h4, h5, h6, h7, h8, h9, h10, h11, h12, h13, h14, h15, h16⟩ := (show okX9 ad m_taped m_size m_faultKind m_faultPlace m_at m_end m_token m_number m_name m_bank m_rb m_codes m_within m_piled m_unitsInRule m_askStrand m_askTied m_thoughtClaim m_thoughtNeed m_thoughtAll m_acts m_undone m_laid m_firstMove m_seens m_time m_waysNow m_fitting 148 (f 148) from hT.1 148 (by decide))
        refine va_get (D := D) (cl := vwCl) (ci := 9) (v := .ref (ad 169)) (C := RX9) (T := TX9) (N := 64) hx hb hts in_X9_bringBack_X9 hown hK hP 148 (wl_at (by decide) e17) rfl 37 (by decide) (hts (.fieldLink RX9 76 "EightReasonsModel" "all" "[I") (List.mem_of_getElem? (i := 1) rfl)) (fun _ h9 => h9) rfl dX9_bringBack_9 ?_
        refine lv_iload_n hx hb dX9_bringBack_12 rfl (lv_at hl 0 rfl) ?_
        refine lv_aload_n hx hb dX9_bringBack_13 rfl (lv_at hl 1 rfl) ?_
        refine va_get (D := D) (cl := vwCl) (ci := 9) (v := .ref (ad 170)) (C := RX9) (T := TX9) (N := 64) hx hb hts in_X9_bringBack_X9 hown hK hP 148 (wl_at (by decide) e17) rfl 38 (by decide) (hts (.fieldLink RX9 79 "EightReasonsModel" "kept" "[I") (List.mem_of_getElem? (i := 2) rfl)) (fun _ h9 => h9) rfl dX9_bringBack_14 ?_
        refine lv_iload_n hx hb dX9_bringBack_17 rfl (lv_at hl 0 rfl) ?_
        obtain ⟨g20, e18, h19⟩ := (show okIr cy 16 (0) (4095) 16 1 (f 170) from hT.1 170 (by decide))
        have hc21 := clampZ (x := v2_l1) (by omega)
        refine va_iald hx hb hK hP 170 0 (wl_at (by decide) e18) rfl (vp_in_iff.mpr ⟨by omega, by omega⟩) dX9_bringBack_18 ?_
        refine lv_topi (fun x22 ex22 => ?_)
        have hx22 := r_elc (h19 _) ex22
        obtain ⟨g25, e23, h24⟩ := (show okIr cy 16 (0) (4095) 16 1 (f 169) from hT.1 169 (by decide))
        refine va_iast hx hb hK hP hD hS 169 0 (wl_at (by decide) e23) rfl (vp_in_iff.mpr ⟨by omega, by omega⟩) dX9_bringBack_19 (fun H locs hP hD hS => ?_)
        have hc26 := clampZ (x := v2_l1) (by omega)
        obtain ⟨f, hT, hP, hD, e27, hj28⟩ := stU (by decide) (TYm.up hT (by decide) (show OKm ad cy c_text m_taped m_size m_faultKind m_faultPlace m_at m_end m_token m_number m_name c_points c_strands c_units c_told c_ruleFrom c_ruleTo c_code c_eWhat c_eSign m_bank m_rb m_codes m_within m_piled m_unitsInRule m_askStrand m_askTied m_thoughtClaim m_thoughtNeed m_thoughtAll c_roundOf m_acts m_undone m_laid m_firstMove m_seens m_time m_waysNow m_fitting 169 _ from (show okIr cy 16 (0) (4095) 16 1 _ from ⟨_, rfl, upd_r h24 (fun q => by omega)⟩))) hP hD
        have e29 := (hj28 148 (by decide)).trans e17
        have e30 := (hj28 170 (by decide)).trans e18
        obtain ⟨x31, ex31⟩ : ∃ q : Int32, q = v2_l1 + Int32.ofInt (1) := ⟨_, rfl⟩
        refine lv_iinc (v := x31) (lv' := [(1, .int x31), (0, .ref (ad 148))]) hx hb dX9_bringBack_20 hl (k := 0) rfl ex31.symm (by decide) rfl (fun ls hl => ?_)
        have hx31 := r_inc ex31 (by decide) (by omega) (by omega)
        refine lv_goto (tgt := 2) hx hb dX9_bringBack_23 (by decide) ?_
        exact ih2 f H locs ls x31 (by omega) (by omega) hT hP hD hS (lv_sub hl [0, 1] rfl)
  refine lv_iconst (v := 0) hx hb dX9_bringBack_0 (by decide) ?_
  refine lv_istore_n (lv' := [(1, .int 0), (0, .ref (ad 148))]) hx hb dX9_bringBack_1 rfl hl (by decide) rfl (fun ls hl => ?_)
  have ttl_0 := tl_0
  exact j2 (Int.toNat (20 - (0 : Int32).toInt)) f H locs ls (0 : Int32) (by omega) (by omega) hT hP hD hS (lv_sub hl [0, 1] rfl)
set_option maxHeartbeats 4000000 in
set_option maxRecDepth 100000 in
theorem s_X9_keepNow_0 (l : Launch) (B0 : Nat) (adK adV : Nat → Nat) (D : va_G) (cy : Nat → ClassId) (ad : Nat → Nat) (fr0 : Nat → va_E) (c_text : Nat → Int32) (m_taped : Int32) (m_size : Int32) (m_faultKind : Int32) (m_faultPlace : Int32) (m_at : Int32) (m_end : Int32) (m_token : Int32) (m_number : Int32) (m_name : Int64) (c_points : Nat → Int32) (c_strands : Nat → Int32) (c_units : Nat → Int32) (c_told : Nat → Int32) (c_ruleFrom : Nat → Int32) (c_ruleTo : Nat → Int32) (c_code : Nat → Int32) (c_eWhat : Nat → Int32) (c_eSign : Nat → Int32) (m_bank : Int32) (m_rb : Int32) (m_codes : Int32) (m_within : Int32) (m_piled : Int32) (m_unitsInRule : Int32) (m_askStrand : Int32) (m_askTied : Int32) (m_thoughtClaim : Int32) (m_thoughtNeed : Int32) (m_thoughtAll : Int32) (c_roundOf : Nat → Int32) (m_acts : Int32) (m_undone : Int32) (m_laid : Int32) (m_firstMove : Int32) (m_seens : Int32) (m_time : Int32) (m_waysNow : Int32) (m_fitting : Int32) (f : Nat → va_E) (hT : TYm ad cy fr0 c_text m_taped m_size m_faultKind m_faultPlace m_at m_end m_token m_number m_name c_points c_strands c_units c_told c_ruleFrom c_ruleTo c_code c_eWhat c_eSign m_bank m_rb m_codes m_within m_piled m_unitsInRule m_askStrand m_askTied m_thoughtClaim m_thoughtNeed m_thoughtAll c_roundOf m_acts m_undone m_laid m_firstMove m_seens m_time m_waysNow m_fitting f) (sz : Nat) : TtV l yX9_keepNow wsX9_keepNow 0 0 [.ref (ad 148)] B0 adK adV D cy ad f sz (fun (g : Nat → va_E) => True ∧ (TYm ad cy fr0 c_text m_taped m_size m_faultKind m_faultPlace m_at m_end m_token m_number m_name c_points c_strands c_units c_told c_ruleFrom c_ruleTo c_code c_eWhat c_eSign m_bank m_rb m_codes m_within m_piled m_unitsInRule m_askStrand m_askTied m_thoughtClaim m_thoughtNeed m_thoughtAll c_roundOf m_acts m_undone m_laid m_firstMove m_seens m_time m_waysNow m_fitting g)) := by
  refine TtV.of (cc := cX9_keepNow) (maxL := 2) (own := RX9) (by decide) rfl (Nat.le_of_ble_eq_true rfl) rfl ?_
  intro p e s m below meth c A ls hx hb hr hml hts hown hlk hK hE hP hD hS hA hAB hl
  have hl : lv_has ls 2 [(0, .ref (ad 148))] := hl
  refine st0 (fun H locs hP hS => ?_) hP hS
  have j2 : ∀ (N : Nat) (f : Nat → va_E) (H : Heap) (locs : List Loc) (ls : Array Slot) (v2_l1 : Int32), (20 - v2_l1.toInt ≤ (N : Int)) → (0 ≤ v2_l1.toInt ∧ v2_l1.toInt ≤ 19) → (TYm ad cy fr0 c_text m_taped m_size m_faultKind m_faultPlace m_at m_end m_token m_number m_name c_points c_strands c_units c_told c_ruleFrom c_ruleTo c_code c_eWhat c_eSign m_bank m_rb m_codes m_within m_piled m_unitsInRule m_askStrand m_askTied m_thoughtClaim m_thoughtNeed m_thoughtAll c_roundOf m_acts m_undone m_laid m_firstMove m_seens m_time m_waysNow m_fitting f) → (va_P D vwCl (wl ad f) H) → (va_D A (wl ad f)) → (va_S A s.heap H locs) → (lv_has ls 2 [(1, .int v2_l1), (0, .ref (ad 148))]) → W p l e (rmO 0 0 0 0) s m ([.ref (ad 148)] : List Value).toArray below meth c H locs 0 0 (MQ below (va_Qv (fun (g : Nat → va_E) => True ∧ (TYm ad cy fr0 c_text m_taped m_size m_faultKind m_faultPlace m_at m_end m_token m_number m_name c_points c_strands c_units c_told c_ruleFrom c_ruleTo c_code c_eWhat c_eSign m_bank m_rb m_codes m_within m_piled m_unitsInRule m_askStrand m_askTied m_thoughtClaim m_thoughtNeed m_thoughtAll c_roundOf m_acts m_undone m_laid m_firstMove m_seens m_time m_waysNow m_fitting g)) (fun g t => PstT D ad g t) A) ([.ref (ad 148)] : List Value).toArray s 0 0 A) (F0 m 2 ls []) := by
    intro N
    induction N with
    | zero => intro f H locs ls v2_l1 hN hv2_l1 hT hP hD hS hl; exact absurd hN (by omega)
    | succ N ih2 =>
      intro f H locs ls v2_l1 hN hv2_l1 hT hP hD hS hl
      refine lv_iload_n hx hb dX9_keepNow_2 rfl (lv_at hl 0 rfl) ?_
      refine lv_bipush (v := 16) hx hb dX9_keepNow_3 (by decide) ?_
      have ttl_16 := tl_16
      refine lv_icmp_ge (tgt := 26) hx hb dX9_keepNow_5 (by decide) (fun c1 => ?_) (fun c1 => ?_)
      · have kc1 := c_le c1
        exact tV hx hb hr hlk hP hS ⟨trivial, hT⟩ dX9_keepNow_26
      · have kc1 := c_nle c1
        refine lv_aload_n hx hb dX9_keepNow_8 rfl (lv_at hl 1 rfl) ?_
        obtain ⟨e17, h2, h3, h4, h5, h6, h7, h8, h9, h10, h11, h12, h13, h14, h15, h16⟩ := (show okX9 ad m_taped m_size m_faultKind m_faultPlace m_at m_end m_token m_number m_name m_bank m_rb m_codes m_within m_piled m_unitsInRule m_askStrand m_askTied m_thoughtClaim m_thoughtNeed m_thoughtAll m_acts m_undone m_laid m_firstMove m_seens m_time m_waysNow m_fitting 148 (f 148) from hT.1 148 (by decide))
        refine va_get (D := D) (cl := vwCl) (ci := 9) (v := .ref (ad 170)) (C := RX9) (T := TX9) (N := 64) hx hb hts in_X9_keepNow_X9 hown hK hP 148 (wl_at (by decide) e17) rfl 38 (by decide) (hts (.fieldLink RX9 79 "EightReasonsModel" "kept" "[I") (List.mem_of_getElem? (i := 1) rfl)) (fun _ h9 => h9) rfl dX9_keepNow_9 ?_
        refine lv_iload_n hx hb dX9_keepNow_12 rfl (lv_at hl 0 rfl) ?_
        refine lv_aload_n hx hb dX9_keepNow_13 rfl (lv_at hl 1 rfl) ?_
        refine va_get (D := D) (cl := vwCl) (ci := 9) (v := .ref (ad 169)) (C := RX9) (T := TX9) (N := 64) hx hb hts in_X9_keepNow_X9 hown hK hP 148 (wl_at (by decide) e17) rfl 37 (by decide) (hts (.fieldLink RX9 76 "EightReasonsModel" "all" "[I") (List.mem_of_getElem? (i := 2) rfl)) (fun _ h9 => h9) rfl dX9_keepNow_14 ?_
        refine lv_iload_n hx hb dX9_keepNow_17 rfl (lv_at hl 0 rfl) ?_
        obtain ⟨g20, e18, h19⟩ := (show okIr cy 16 (0) (4095) 16 1 (f 169) from hT.1 169 (by decide))
        have hc21 := clampZ (x := v2_l1) (by omega)
        refine va_iald hx hb hK hP 169 0 (wl_at (by decide) e18) rfl (vp_in_iff.mpr ⟨by omega, by omega⟩) dX9_keepNow_18 ?_
        refine lv_topi (fun x22 ex22 => ?_)
        have hx22 := r_elc (h19 _) ex22
        obtain ⟨g25, e23, h24⟩ := (show okIr cy 16 (0) (4095) 16 1 (f 170) from hT.1 170 (by decide))
        refine va_iast hx hb hK hP hD hS 170 0 (wl_at (by decide) e23) rfl (vp_in_iff.mpr ⟨by omega, by omega⟩) dX9_keepNow_19 (fun H locs hP hD hS => ?_)
        have hc26 := clampZ (x := v2_l1) (by omega)
        obtain ⟨f, hT, hP, hD, e27, hj28⟩ := stU (by decide) (TYm.up hT (by decide) (show OKm ad cy c_text m_taped m_size m_faultKind m_faultPlace m_at m_end m_token m_number m_name c_points c_strands c_units c_told c_ruleFrom c_ruleTo c_code c_eWhat c_eSign m_bank m_rb m_codes m_within m_piled m_unitsInRule m_askStrand m_askTied m_thoughtClaim m_thoughtNeed m_thoughtAll c_roundOf m_acts m_undone m_laid m_firstMove m_seens m_time m_waysNow m_fitting 170 _ from (show okIr cy 16 (0) (4095) 16 1 _ from ⟨_, rfl, upd_r h24 (fun q => by omega)⟩))) hP hD
        have e29 := (hj28 148 (by decide)).trans e17
        have e30 := (hj28 169 (by decide)).trans e18
        obtain ⟨x31, ex31⟩ : ∃ q : Int32, q = v2_l1 + Int32.ofInt (1) := ⟨_, rfl⟩
        refine lv_iinc (v := x31) (lv' := [(1, .int x31), (0, .ref (ad 148))]) hx hb dX9_keepNow_20 hl (k := 0) rfl ex31.symm (by decide) rfl (fun ls hl => ?_)
        have hx31 := r_inc ex31 (by decide) (by omega) (by omega)
        refine lv_goto (tgt := 2) hx hb dX9_keepNow_23 (by decide) ?_
        exact ih2 f H locs ls x31 (by omega) (by omega) hT hP hD hS (lv_sub hl [0, 1] rfl)
  refine lv_iconst (v := 0) hx hb dX9_keepNow_0 (by decide) ?_
  refine lv_istore_n (lv' := [(1, .int 0), (0, .ref (ad 148))]) hx hb dX9_keepNow_1 rfl hl (by decide) rfl (fun ls hl => ?_)
  have ttl_0 := tl_0
  exact j2 (Int.toNat (20 - (0 : Int32).toInt)) f H locs ls (0 : Int32) (by omega) (by omega) hT hP hD hS (lv_sub hl [0, 1] rfl)
set_option maxHeartbeats 4000000 in
set_option maxRecDepth 100000 in
theorem s_X9_will_0 (l : Launch) (B0 : Nat) (adK adV : Nat → Nat) (D : va_G) (cy : Nat → ClassId) (ad : Nat → Nat) (fr0 : Nat → va_E) (c_text : Nat → Int32) (m_taped : Int32) (m_size : Int32) (m_faultKind : Int32) (m_faultPlace : Int32) (m_at : Int32) (m_end : Int32) (m_token : Int32) (m_number : Int32) (m_name : Int64) (c_points : Nat → Int32) (c_strands : Nat → Int32) (c_units : Nat → Int32) (c_told : Nat → Int32) (c_ruleFrom : Nat → Int32) (c_ruleTo : Nat → Int32) (c_code : Nat → Int32) (c_eWhat : Nat → Int32) (c_eSign : Nat → Int32) (m_bank : Int32) (m_rb : Int32) (m_codes : Int32) (m_within : Int32) (m_piled : Int32) (m_unitsInRule : Int32) (m_askStrand : Int32) (m_askTied : Int32) (m_thoughtClaim : Int32) (m_thoughtNeed : Int32) (m_thoughtAll : Int32) (c_roundOf : Nat → Int32) (m_acts : Int32) (m_undone : Int32) (m_laid : Int32) (m_firstMove : Int32) (m_seens : Int32) (m_time : Int32) (m_waysNow : Int32) (m_fitting : Int32) (f : Nat → va_E) (hT : TYm ad cy fr0 c_text m_taped m_size m_faultKind m_faultPlace m_at m_end m_token m_number m_name c_points c_strands c_units c_told c_ruleFrom c_ruleTo c_code c_eWhat c_eSign m_bank m_rb m_codes m_within m_piled m_unitsInRule m_askStrand m_askTied m_thoughtClaim m_thoughtNeed m_thoughtAll c_roundOf m_acts m_undone m_laid m_firstMove m_seens m_time m_waysNow m_fitting f) (p1 : Int32) (p2 : Int32) (hCV : CVp c_told c_ruleFrom c_ruleTo c_code m_bank) (sz : Nat) : TtI l yX9_will wsX9_will 7 158 [.ref (ad 148), .int p1, .int p2] B0 adK adV D cy ad f sz (fun (r : Int32) (g : Nat → va_E) => (-1 ≤ r.toInt ∧ r.toInt ≤ 4095) ∧ (∃ (m_askStrand' : Int32) (m_askTied' : Int32) (c_roundOf' : Nat → Int32), TYm ad cy fr0 c_text m_taped m_size m_faultKind m_faultPlace m_at m_end m_token m_number m_name c_points c_strands c_units c_told c_ruleFrom c_ruleTo c_code c_eWhat c_eSign m_bank m_rb m_codes m_within m_piled m_unitsInRule m_askStrand' m_askTied' m_thoughtClaim m_thoughtNeed m_thoughtAll c_roundOf' m_acts m_undone m_laid m_firstMove m_seens m_time m_waysNow m_fitting g)) := by
  refine TtI.of (cc := cX9_will) (maxL := 5) (ty := .int) (own := RX9) (by decide) rfl (Nat.le_of_ble_eq_true rfl) rfl ?_
  intro p e s m below meth c A ls hx hb hr hml hts hown hlk hK hE hP hD hS hA hAB hl
  have hl : lv_has ls 5 [(0, .ref (ad 148)), (1, .int p1), (2, .int p2)] := hl
  refine st0 (fun H locs hP hS => ?_) hP hS
  have j30 : ∀ (N : Nat) (f : Nat → va_E) (H : Heap) (locs : List Loc) (ls : Array Slot) (v30_l4 : Int32) (v30_l3 : Int32), (64 - v30_l4.toInt ≤ (N : Int)) → (0 ≤ v30_l4.toInt ∧ v30_l4.toInt ≤ 63) → (0 ≤ v30_l3.toInt ∧ v30_l3.toInt ≤ 4095) → (0 ≤ p1.toInt ∧ p1.toInt ≤ 60) → (0 ≤ p2.toInt ∧ p2.toInt ≤ 1) → (TYm ad cy fr0 c_text m_taped m_size m_faultKind m_faultPlace m_at m_end m_token m_number m_name c_points c_strands c_units c_told c_ruleFrom c_ruleTo c_code c_eWhat c_eSign m_bank m_rb m_codes m_within m_piled m_unitsInRule m_askStrand m_askTied m_thoughtClaim m_thoughtNeed m_thoughtAll c_roundOf m_acts m_undone m_laid m_firstMove m_seens m_time m_waysNow m_fitting f) → (va_P D vwCl (wl ad f) H) → (va_D A (wl ad f)) → (va_S A s.heap H locs) → (lv_has ls 5 [(4, .int v30_l4), (3, .int v30_l3), (0, .ref (ad 148)), (1, .int p1), (2, .int p2)]) → W p l e (rmO 7 158 0 0) s m ([.ref (ad 148), .int p1, .int p2] : List Value).toArray below meth c H locs 0 0 (MQ below (va_Qi (fun (r : Int32) (g : Nat → va_E) => (-1 ≤ r.toInt ∧ r.toInt ≤ 4095) ∧ (∃ (m_askStrand' : Int32) (m_askTied' : Int32) (c_roundOf' : Nat → Int32), TYm ad cy fr0 c_text m_taped m_size m_faultKind m_faultPlace m_at m_end m_token m_number m_name c_points c_strands c_units c_told c_ruleFrom c_ruleTo c_code c_eWhat c_eSign m_bank m_rb m_codes m_within m_piled m_unitsInRule m_askStrand' m_askTied' m_thoughtClaim m_thoughtNeed m_thoughtAll c_roundOf' m_acts m_undone m_laid m_firstMove m_seens m_time m_waysNow m_fitting g)) (fun g t => PstT D ad g t) A) ([.ref (ad 148), .int p1, .int p2] : List Value).toArray s 0 0 A) (F0 m 30 ls []) := by
    intro N
    induction N with
    | zero => intro f H locs ls v30_l4 v30_l3 hN hv30_l4 hv30_l3 hv30_l1 hv30_l2 hT hP hD hS hl; exact absurd hN (by omega)
    | succ N ih30 =>
      intro f H locs ls v30_l4 v30_l3 hN hv30_l4 hv30_l3 hv30_l1 hv30_l2 hT hP hD hS hl
      have j59 : ∀ (f : Nat → va_E) (H : Heap) (locs : List Loc) (ls : Array Slot) (v59_l3 : Int32), (0 ≤ v30_l4.toInt ∧ v30_l4.toInt ≤ 59) → (0 ≤ v59_l3.toInt ∧ v59_l3.toInt ≤ 4095) → (1 ≤ p1.toInt ∧ p1.toInt ≤ 60) → (0 ≤ p2.toInt ∧ p2.toInt ≤ 1) → (TYm ad cy fr0 c_text m_taped m_size m_faultKind m_faultPlace m_at m_end m_token m_number m_name c_points c_strands c_units c_told c_ruleFrom c_ruleTo c_code c_eWhat c_eSign m_bank m_rb m_codes m_within m_piled m_unitsInRule m_askStrand m_askTied m_thoughtClaim m_thoughtNeed m_thoughtAll c_roundOf m_acts m_undone m_laid m_firstMove m_seens m_time m_waysNow m_fitting f) → (va_P D vwCl (wl ad f) H) → (va_D A (wl ad f)) → (va_S A s.heap H locs) → (lv_has ls 5 [(4, .int v30_l4), (3, .int v59_l3), (0, .ref (ad 148)), (1, .int p1), (2, .int p2)]) → W p l e (rmO 7 158 0 0) s m ([.ref (ad 148), .int p1, .int p2] : List Value).toArray below meth c H locs 0 0 (MQ below (va_Qi (fun (r : Int32) (g : Nat → va_E) => (-1 ≤ r.toInt ∧ r.toInt ≤ 4095) ∧ (∃ (m_askStrand' : Int32) (m_askTied' : Int32) (c_roundOf' : Nat → Int32), TYm ad cy fr0 c_text m_taped m_size m_faultKind m_faultPlace m_at m_end m_token m_number m_name c_points c_strands c_units c_told c_ruleFrom c_ruleTo c_code c_eWhat c_eSign m_bank m_rb m_codes m_within m_piled m_unitsInRule m_askStrand' m_askTied' m_thoughtClaim m_thoughtNeed m_thoughtAll c_roundOf' m_acts m_undone m_laid m_firstMove m_seens m_time m_waysNow m_fitting g)) (fun g t => PstT D ad g t) A) ([.ref (ad 148), .int p1, .int p2] : List Value).toArray s 0 0 A) (F0 m 59 ls []) := by
        intro f H locs ls v59_l3 hv59_l4 hv59_l3 hv59_l1 hv59_l2 hT hP hD hS hl
        obtain ⟨x1, ex1⟩ : ∃ q : Int32, q = v30_l4 + Int32.ofInt (1) := ⟨_, rfl⟩
        refine lv_iinc (v := x1) (lv' := [(4, .int x1), (3, .int v59_l3), (0, .ref (ad 148)), (1, .int p1), (2, .int p2)]) hx hb dX9_will_59 hl (k := 0) rfl ex1.symm (by decide) rfl (fun ls hl => ?_)
        have hx1 := r_inc ex1 (by decide) (by omega) (by omega)
        refine lv_goto (tgt := 30) hx hb dX9_will_62 (by decide) ?_
        exact ih30 f H locs ls x1 v59_l3 (by omega) (by omega) (by omega) (by omega) (by omega) hT hP hD hS (lv_sub hl [0, 1, 2, 3, 4] rfl)
      refine lv_iload hx hb dX9_will_30 (lv_at hl 0 rfl) ?_
      refine lv_iload_n hx hb dX9_will_32 rfl (lv_at hl 3 rfl) ?_
      refine lv_icmp_ge (tgt := 65) hx hb dX9_will_33 (by decide) (fun c2 => ?_) (fun c2 => ?_)
      · have kc2 := c_le c2
        refine lv_aload_n hx hb dX9_will_65 rfl (lv_at hl 2 rfl) ?_
        obtain ⟨e18, h3, h4, h5, h6, h7, h8, h9, h10, h11, h12, h13, h14, h15, h16, h17⟩ := (show okX9 ad m_taped m_size m_faultKind m_faultPlace m_at m_end m_token m_number m_name m_bank m_rb m_codes m_within m_piled m_unitsInRule m_askStrand m_askTied m_thoughtClaim m_thoughtNeed m_thoughtAll m_acts m_undone m_laid m_firstMove m_seens m_time m_waysNow m_fitting 148 (f 148) from hT.1 148 (by decide))
        refine tVI (As := []) (rest := []) (i := 148) ⟨hx, hb, hml, hown, hts⟩ hK hE hP hD hS hA hAB (s_X9_standNow_0 l B0 adK adV D cy ad fr0 c_text m_taped m_size m_faultKind m_faultPlace m_at m_end m_token m_number m_name c_points c_strands c_units c_told c_ruleFrom c_ruleTo c_code c_eWhat c_eSign m_bank m_rb m_codes m_within m_piled m_unitsInRule m_askStrand m_askTied m_thoughtClaim m_thoughtNeed m_thoughtAll c_roundOf m_acts m_undone m_laid m_firstMove m_seens m_time m_waysNow m_fitting f hT hCV _) (cwV 0 hts gX9_will_X9_standNow rfl rfl rfl (by decide +kernel) ⟨Nat.le_of_ble_eq_true rfl, Nat.le_of_ble_eq_true rfl⟩) (by decide) 9 e18 rfl rfl hl.1 rfl (Nat.le_of_ble_eq_true rfl) dX9_will_66 ⟨Nat.le_of_ble_eq_true rfl, Nat.le_of_ble_eq_true rfl⟩ (fun r f H locs hw hP hD hS => ?_)
        obtain ⟨hrs, x19, x20, y21, hT, h22⟩ := hw
        obtain ⟨x23, rfl⟩ : ∃ q, q = r := ⟨_, rfl⟩
        have h24 := hrs
        refine lv_istore (lv' := [(4, .int x23), (3, .int v30_l3), (0, .ref (ad 148)), (1, .int p1), (2, .int p2)]) hx hb dX9_will_69 hl (by decide) rfl (fun ls hl => ?_)
        refine lv_aload_n hx hb dX9_will_71 rfl (lv_at hl 2 rfl) ?_
        obtain ⟨e40, h25, h26, h27, h28, h29, h30, h31, h32, h33, h34, h35, h36, h37, h38, h39⟩ := (show okX9 ad m_taped m_size m_faultKind m_faultPlace m_at m_end m_token m_number m_name m_bank m_rb m_codes m_within m_piled m_unitsInRule x19 x20 m_thoughtClaim m_thoughtNeed m_thoughtAll m_acts m_undone m_laid m_firstMove m_seens m_time m_waysNow m_fitting 148 (f 148) from hT.1 148 (by decide))
        refine tVV (As := []) (rest := []) (i := 148) ⟨hx, hb, hml, hown, hts⟩ hK hE hP hD hS hA hAB (s_X9_bringBack_0 l B0 adK adV D cy ad fr0 c_text m_taped m_size m_faultKind m_faultPlace m_at m_end m_token m_number m_name c_points c_strands c_units c_told c_ruleFrom c_ruleTo c_code c_eWhat c_eSign m_bank m_rb m_codes m_within m_piled m_unitsInRule x19 x20 m_thoughtClaim m_thoughtNeed m_thoughtAll y21 m_acts m_undone m_laid m_firstMove m_seens m_time m_waysNow m_fitting f hT _) (cwV 0 hts gX9_will_X9_bringBack rfl rfl rfl (by decide +kernel) ⟨Nat.le_of_ble_eq_true rfl, Nat.le_of_ble_eq_true rfl⟩) (by decide) 9 e40 rfl rfl hl.1 rfl (Nat.le_of_ble_eq_true rfl) dX9_will_72 ⟨Nat.le_of_ble_eq_true rfl, Nat.le_of_ble_eq_true rfl⟩ (fun f H locs hw hP hD hS => ?_)
        obtain ⟨hrs, hT⟩ := hw
        refine lv_iload hx hb dX9_will_75 (lv_at hl 0 rfl) ?_
        exact tI hx hb hr hlk rfl hP hS ⟨(by omega), ⟨x19, x20, y21, hT⟩⟩ dX9_will_77
      · have kc2 := c_nle c2
        refine lv_aload_n hx hb dX9_will_36 rfl (lv_at hl 2 rfl) ?_
        obtain ⟨e56, h41, h42, h43, h44, h45, h46, h47, h48, h49, h50, h51, h52, h53, h54, h55⟩ := (show okX9 ad m_taped m_size m_faultKind m_faultPlace m_at m_end m_token m_number m_name m_bank m_rb m_codes m_within m_piled m_unitsInRule m_askStrand m_askTied m_thoughtClaim m_thoughtNeed m_thoughtAll m_acts m_undone m_laid m_firstMove m_seens m_time m_waysNow m_fitting 148 (f 148) from hT.1 148 (by decide))
        refine va_get (D := D) (cl := vwCl) (ci := 9) (v := .ref (ad 169)) (C := RX9) (T := TX9) (N := 64) hx hb hts in_X9_will_X9 hown hK hP 148 (wl_at (by decide) e56) rfl 37 (by decide) (hts (.fieldLink RX9 76 "EightReasonsModel" "all" "[I") (List.mem_of_getElem? (i := 1) rfl)) (fun _ h9 => h9) rfl dX9_will_37 ?_
        refine lv_bipush (v := 14) hx hb dX9_will_40 (by decide) ?_
        refine lv_dup2_11 hx hb dX9_will_42 rfl rfl ?_
        obtain ⟨g59, e57, h58⟩ := (show okIr cy 16 (0) (4095) 16 1 (f 169) from hT.1 169 (by decide))
        have ttl_14 := tl_14
        refine va_iald hx hb hK hP 169 0 (wl_at (by decide) e57) rfl (vin (by decide)) dX9_will_43 ?_
        refine lv_topi (fun x60 ex60 => ?_)
        refine lv_iconst (v := 1) hx hb dX9_will_44 (by decide) ?_
        refine lv_iadd hx hb dX9_will_45 ?_
        refine lv_topi (fun x61 ex61 => ?_)
        refine va_iast hx hb hK hP hD hS 169 0 (wl_at (by decide) e57) rfl (vin (by decide)) dX9_will_46 (fun H locs hP hD hS => ?_)
        obtain ⟨f, hT, hP, hD, e62, hj63⟩ := stU (by decide) (TYm.up hT (by decide) (show OKm ad cy c_text m_taped m_size m_faultKind m_faultPlace m_at m_end m_token m_number m_name c_points c_strands c_units c_told c_ruleFrom c_ruleTo c_code c_eWhat c_eSign m_bank m_rb m_codes m_within m_piled m_unitsInRule m_askStrand m_askTied m_thoughtClaim m_thoughtNeed m_thoughtAll c_roundOf m_acts m_undone m_laid m_firstMove m_seens m_time m_waysNow m_fitting 169 _ from (show okIr cy 16 (0) (4095) 16 1 _ from ⟨_, rfl, upd_r h58 (fun q => absurd q (by decide))⟩))) hP hD
        have e64 := (hj63 148 (by decide)).trans e56
        refine lv_iload_n hx hb dX9_will_47 rfl (lv_at hl 4 rfl) ?_
        refine lv_iconst (v := 1) hx hb dX9_will_48 (by decide) ?_
        have ttl_1 := tl_1
        refine lv_icmp_ne (tgt := 59) hx hb dX9_will_49 (by decide) (fun c65 => ?_) (fun c65 => ?_)
        · have kc65 := c_ne c65
          exact j59 f H locs ls v30_l3 (by omega) (by omega) (by omega) (by omega) hT hP hD hS (lv_sub hl [0, 1, 2, 3, 4] rfl)
        · have kc65 := c_eq c65
          refine lv_iload_n hx hb dX9_will_52 rfl (lv_at hl 1 rfl) ?_
          refine lv_aload_n hx hb dX9_will_53 rfl (lv_at hl 2 rfl) ?_
          refine tVI (As := []) (rest := [.int v30_l3]) (i := 148) ⟨hx, hb, hml, hown, hts⟩ hK hE hP hD hS hA hAB (s_X9_goDay_0 l B0 adK adV D cy ad fr0 c_text m_taped m_size m_faultKind m_faultPlace m_at m_end m_token m_number m_name c_points c_strands c_units c_told c_ruleFrom c_ruleTo c_code c_eWhat c_eSign m_bank m_rb m_codes m_within m_piled m_unitsInRule m_askStrand m_askTied m_thoughtClaim m_thoughtNeed m_thoughtAll c_roundOf m_acts m_undone m_laid m_firstMove m_seens m_time m_waysNow m_fitting f hT _) (cwV 0 hts gX9_will_X9_goDay rfl rfl rfl (by decide +kernel) ⟨Nat.le_of_ble_eq_true rfl, Nat.le_of_ble_eq_true rfl⟩) (by decide) 9 e64 rfl rfl hl.1 rfl (Nat.le_of_ble_eq_true rfl) dX9_will_54 ⟨Nat.le_of_ble_eq_true rfl, Nat.le_of_ble_eq_true rfl⟩ (fun r f H locs hw hP hD hS => ?_)
          obtain ⟨hrs, hT⟩ := hw
          obtain ⟨x66, rfl⟩ : ∃ q, q = r := ⟨_, rfl⟩
          have h67 := hrs
          refine lv_ior hx hb dX9_will_57 ?_
          refine lv_topi (fun x68 ex68 => ?_)
          have hx68 := r_or (k := 12) (K := 4096) ex68 (by decide) (by decide) (by omega) (by omega) (by omega) (by omega)
          refine lv_istore_n (lv' := [(3, .int x68), (4, .int v30_l4), (0, .ref (ad 148)), (1, .int p1), (2, .int p2)]) hx hb dX9_will_58 rfl hl (by decide) rfl (fun ls hl => ?_)
          exact j59 f H locs ls x68 (by omega) (by omega) (by omega) (by omega) hT hP hD hS (lv_sub hl [1, 0, 2, 3, 4] rfl)
  refine lv_iload_n hx hb dX9_will_0 rfl (lv_at hl 1 rfl) ?_
  refine lv_iconst (v := 0) hx hb dX9_will_1 (by decide) ?_
  refine lv_bipush (v := 60) hx hb dX9_will_2 (by decide) ?_
  have ttl_0 := tl_0
  have ttl_60 := tl_60
  refine tSI (As := [.int p1, .int 0, .int 60]) (rest := []) ⟨hx, hb, hml, hown, hts⟩ hK hE hP hD hS hA hAB (s_X9_isIn_0 l B0 adK adV D cy ad f p1 (0 : Int32) (by omega) (60 : Int32) (by omega) _) (va_cwS 3 hts gX9_will_X9_isIn rfl rfl rfl (by decide +kernel) ⟨Nat.le_of_ble_eq_true rfl, Nat.le_of_ble_eq_true rfl⟩) rfl hl.1 rfl (Nat.le_of_ble_eq_true rfl) dX9_will_4 ⟨Nat.le_of_ble_eq_true rfl, Nat.le_of_ble_eq_true rfl⟩ (fun r g H locs hw hP hD hS => ?_)
  obtain ⟨hrs, rfl⟩ := hw
  obtain ⟨x69, rfl⟩ : ∃ q, q = r := ⟨_, rfl⟩
  rcases hrs with ⟨rfl, h70, h71⟩ | rfl
  · refine lv_if_eq (tgt := 19) hx hb dX9_will_7 (by decide) (fun c => absurd c (by decide)) (fun _ => ?_)
    refine lv_iload_n hx hb dX9_will_10 rfl (lv_at hl 2 rfl) ?_
    refine lv_iconst (v := 0) hx hb dX9_will_11 (by decide) ?_
    refine lv_iconst (v := 1) hx hb dX9_will_12 (by decide) ?_
    have ttl_1 := tl_1
    refine tSI (As := [.int p2, .int 0, .int 1]) (rest := []) ⟨hx, hb, hml, hown, hts⟩ hK hE hP hD hS hA hAB (s_X9_isIn_0 l B0 adK adV D cy ad f p2 (0 : Int32) (by omega) (1 : Int32) (by omega) _) (va_cwS 3 hts gX9_will_X9_isIn rfl rfl rfl (by decide +kernel) ⟨Nat.le_of_ble_eq_true rfl, Nat.le_of_ble_eq_true rfl⟩) rfl hl.1 rfl (Nat.le_of_ble_eq_true rfl) dX9_will_13 ⟨Nat.le_of_ble_eq_true rfl, Nat.le_of_ble_eq_true rfl⟩ (fun r g H locs hw hP hD hS => ?_)
    obtain ⟨hrs, rfl⟩ := hw
    obtain ⟨x72, rfl⟩ : ∃ q, q = r := ⟨_, rfl⟩
    rcases hrs with ⟨rfl, h73, h74⟩ | rfl
    · refine lv_if_ne (tgt := 21) hx hb dX9_will_16 (by decide) (fun _ => ?_) (fun c => absurd c (by decide))
      refine lv_aload_n hx hb dX9_will_21 rfl (lv_at hl 0 rfl) ?_
      obtain ⟨e90, h75, h76, h77, h78, h79, h80, h81, h82, h83, h84, h85, h86, h87, h88, h89⟩ := (show okX9 ad m_taped m_size m_faultKind m_faultPlace m_at m_end m_token m_number m_name m_bank m_rb m_codes m_within m_piled m_unitsInRule m_askStrand m_askTied m_thoughtClaim m_thoughtNeed m_thoughtAll m_acts m_undone m_laid m_firstMove m_seens m_time m_waysNow m_fitting 148 (f 148) from hT.1 148 (by decide))
      refine tVV (As := []) (rest := []) (i := 148) ⟨hx, hb, hml, hown, hts⟩ hK hE hP hD hS hA hAB (s_X9_keepNow_0 l B0 adK adV D cy ad fr0 c_text m_taped m_size m_faultKind m_faultPlace m_at m_end m_token m_number m_name c_points c_strands c_units c_told c_ruleFrom c_ruleTo c_code c_eWhat c_eSign m_bank m_rb m_codes m_within m_piled m_unitsInRule m_askStrand m_askTied m_thoughtClaim m_thoughtNeed m_thoughtAll c_roundOf m_acts m_undone m_laid m_firstMove m_seens m_time m_waysNow m_fitting f hT _) (cwV 0 hts gX9_will_X9_keepNow rfl rfl rfl (by decide +kernel) ⟨Nat.le_of_ble_eq_true rfl, Nat.le_of_ble_eq_true rfl⟩) (by decide) 9 e90 rfl rfl hl.1 rfl (Nat.le_of_ble_eq_true rfl) dX9_will_22 ⟨Nat.le_of_ble_eq_true rfl, Nat.le_of_ble_eq_true rfl⟩ (fun f H locs hw hP hD hS => ?_)
      obtain ⟨hrs, hT⟩ := hw
      refine lv_iconst (v := 0) hx hb dX9_will_25 (by decide) ?_
      refine lv_istore_n (lv' := [(3, .int 0), (0, .ref (ad 148)), (1, .int p1), (2, .int p2)]) hx hb dX9_will_26 rfl hl (by decide) rfl (fun ls hl => ?_)
      refine lv_iconst (v := 0) hx hb dX9_will_27 (by decide) ?_
      refine lv_istore (lv' := [(4, .int 0), (3, .int 0), (0, .ref (ad 148)), (1, .int p1), (2, .int p2)]) hx hb dX9_will_28 hl (by decide) rfl (fun ls hl => ?_)
      exact j30 (Int.toNat (64 - (0 : Int32).toInt)) f H locs ls (0 : Int32) (0 : Int32) (by omega) (by omega) (by omega) (by omega) (by omega) hT hP hD hS (lv_sub hl [0, 1, 2, 3, 4] rfl)
    · refine lv_if_ne (tgt := 21) hx hb dX9_will_16 (by decide) (fun c => absurd (by decide) c) (fun _ => ?_)
      refine lv_iconst (v := (-1)) hx hb dX9_will_19 (by decide) ?_
      have ttl_m1 := tl_m1
      exact tI hx hb hr hlk rfl hP hS ⟨(by omega), ⟨m_askStrand, m_askTied, c_roundOf, hT⟩⟩ dX9_will_20
  · refine lv_if_eq (tgt := 19) hx hb dX9_will_7 (by decide) (fun _ => ?_) (fun c => absurd (by decide) c)
    refine lv_iconst (v := (-1)) hx hb dX9_will_19 (by decide) ?_
    have ttl_m1 := tl_m1
    exact tI hx hb hr hlk rfl hP hS ⟨(by omega), ⟨m_askStrand, m_askTied, c_roundOf, hT⟩⟩ dX9_will_20
set_option maxHeartbeats 4000000 in
set_option maxRecDepth 100000 in
theorem s_X9_toldOf_0 (l : Launch) (B0 : Nat) (adK adV : Nat → Nat) (D : va_G) (cy : Nat → ClassId) (ad : Nat → Nat) (f : Nat → va_E) (p0 : Int32) (hp0 : -1 ≤ p0.toInt ∧ p0.toInt ≤ 4095) (p1 : Int32) (hp1 : 0 ≤ p1.toInt ∧ p1.toInt ≤ 1) (sz : Nat) : TtI l yX9_toldOf wsX9_toldOf 1 22 [.int p0, .int p1] B0 adK adV D cy ad f sz (fun (r : Int32) (g : Nat → va_E) => (-1 ≤ r.toInt ∧ r.toInt ≤ 4095) ∧ (f = g)) := by
  refine TtI.of (cc := cX9_toldOf) (maxL := 2) (ty := .int) (own := RX9) (by decide) rfl (Nat.le_of_ble_eq_true rfl) rfl ?_
  intro p e s m below meth c A ls hx hb hr hml hts hown hlk hK hE hP hD hS hA hAB hl
  have hl : lv_has ls 2 [(0, .int p0), (1, .int p1)] := hl
  refine st0 (fun H locs hP hS => ?_) hP hS
  refine lv_iload_n hx hb dX9_toldOf_0 rfl (lv_at hl 0 rfl) ?_
  have ttl_0 := tl_0
  refine lv_if_ge (tgt := 8) hx hb dX9_toldOf_1 (by decide) (fun c1 => ?_) (fun c1 => ?_)
  · have kc1 := c_le c1
    refine lv_iload_n hx hb dX9_toldOf_8 rfl (lv_at hl 1 rfl) ?_
    refine lv_if_ne (tgt := 19) hx hb dX9_toldOf_9 (by decide) (fun c2 => ?_) (fun c2 => ?_)
    · have kc2 := c_ne c2
      refine lv_iload_n hx hb dX9_toldOf_19 rfl (lv_at hl 0 rfl) ?_
      exact tI hx hb hr hlk rfl hP hS ⟨(by omega), rfl⟩ dX9_toldOf_20
    · have kc2 := c_eq c2
      refine lv_iload_n hx hb dX9_toldOf_12 rfl (lv_at hl 0 rfl) ?_
      refine tSI (As := [.int p0]) (rest := []) ⟨hx, hb, hml, hown, hts⟩ hK hE hP hD hS hA hAB (s_X9_bitsOf_0 l B0 adK adV D cy ad f p0 (by omega) _) (va_cwS 1 hts gX9_toldOf_X9_bitsOf rfl rfl rfl (by decide +kernel) ⟨Nat.le_of_ble_eq_true rfl, Nat.le_of_ble_eq_true rfl⟩) rfl hl.1 rfl (Nat.le_of_ble_eq_true rfl) dX9_toldOf_13 ⟨Nat.le_of_ble_eq_true rfl, Nat.le_of_ble_eq_true rfl⟩ (fun r g H locs hw hP hD hS => ?_)
      obtain ⟨hrs, rfl⟩ := hw
      obtain ⟨x3, rfl⟩ : ∃ q, q = r := ⟨_, rfl⟩
      have h4 := hrs
      refine lv_goto (tgt := 20) hx hb dX9_toldOf_16 (by decide) ?_
      exact tI hx hb hr hlk rfl hP hS ⟨(by omega), rfl⟩ dX9_toldOf_20
  · have kc1 := c_nle c1
    refine lv_iconst (v := (-1)) hx hb dX9_toldOf_4 (by decide) ?_
    refine lv_goto (tgt := 20) hx hb dX9_toldOf_5 (by decide) ?_
    have ttl_m1 := tl_m1
    exact tI hx hb hr hlk rfl hP hS ⟨(by omega), rfl⟩ dX9_toldOf_20
set_option maxHeartbeats 4000000 in
set_option maxRecDepth 100000 in
theorem s_X9_standWith_0 (l : Launch) (B0 : Nat) (adK adV : Nat → Nat) (D : va_G) (cy : Nat → ClassId) (ad : Nat → Nat) (fr0 : Nat → va_E) (c_text : Nat → Int32) (m_taped : Int32) (m_size : Int32) (m_faultKind : Int32) (m_faultPlace : Int32) (m_at : Int32) (m_end : Int32) (m_token : Int32) (m_number : Int32) (m_name : Int64) (c_points : Nat → Int32) (c_strands : Nat → Int32) (c_units : Nat → Int32) (c_told : Nat → Int32) (c_ruleFrom : Nat → Int32) (c_ruleTo : Nat → Int32) (c_code : Nat → Int32) (c_eWhat : Nat → Int32) (c_eSign : Nat → Int32) (m_bank : Int32) (m_rb : Int32) (m_codes : Int32) (m_within : Int32) (m_piled : Int32) (m_unitsInRule : Int32) (m_askStrand : Int32) (m_askTied : Int32) (m_thoughtClaim : Int32) (m_thoughtNeed : Int32) (m_thoughtAll : Int32) (c_roundOf : Nat → Int32) (m_acts : Int32) (m_undone : Int32) (m_laid : Int32) (m_firstMove : Int32) (m_seens : Int32) (m_time : Int32) (m_waysNow : Int32) (m_fitting : Int32) (f : Nat → va_E) (hT : TYm ad cy fr0 c_text m_taped m_size m_faultKind m_faultPlace m_at m_end m_token m_number m_name c_points c_strands c_units c_told c_ruleFrom c_ruleTo c_code c_eWhat c_eSign m_bank m_rb m_codes m_within m_piled m_unitsInRule m_askStrand m_askTied m_thoughtClaim m_thoughtNeed m_thoughtAll c_roundOf m_acts m_undone m_laid m_firstMove m_seens m_time m_waysNow m_fitting f) (p1 : Int32) (hp1 : 0 ≤ p1.toInt ∧ p1.toInt ≤ 4095) (hCV : CVp c_told c_ruleFrom c_ruleTo c_code m_bank) (sz : Nat) : TtI l yX9_standWith wsX9_standWith 6 138 [.ref (ad 148), .int p1] B0 adK adV D cy ad f sz (fun (r : Int32) (g : Nat → va_E) => (0 ≤ r.toInt ∧ r.toInt ≤ 4095) ∧ (∃ (m_askStrand' : Int32) (m_askTied' : Int32) (c_roundOf' : Nat → Int32), TYm ad cy fr0 c_text m_taped m_size m_faultKind m_faultPlace m_at m_end m_token m_number m_name c_points c_strands c_units c_told c_ruleFrom c_ruleTo c_code c_eWhat c_eSign m_bank m_rb m_codes m_within m_piled m_unitsInRule m_askStrand' m_askTied' m_thoughtClaim m_thoughtNeed m_thoughtAll c_roundOf' m_acts m_undone m_laid m_firstMove m_seens m_time m_waysNow m_fitting g ∧ (0 ≤ m_askTied'.toInt ∧ m_askTied'.toInt ≤ 4095))) := by
  refine TtI.of (cc := cX9_standWith) (maxL := 2) (ty := .int) (own := RX9) (by decide) rfl (Nat.le_of_ble_eq_true rfl) rfl ?_
  intro p e s m below meth c A ls hx hb hr hml hts hown hlk hK hE hP hD hS hA hAB hl
  have hl : lv_has ls 2 [(0, .ref (ad 148)), (1, .int p1)] := hl
  refine st0 (fun H locs hP hS => ?_) hP hS
  refine lv_aload_n hx hb dX9_standWith_0 rfl (lv_at hl 0 rfl) ?_
  refine lv_aload_n hx hb dX9_standWith_1 rfl (lv_at hl 0 rfl) ?_
  obtain ⟨e16, h1, h2, h3, h4, h5, h6, h7, h8, h9, h10, h11, h12, h13, h14, h15⟩ := (show okX9 ad m_taped m_size m_faultKind m_faultPlace m_at m_end m_token m_number m_name m_bank m_rb m_codes m_within m_piled m_unitsInRule m_askStrand m_askTied m_thoughtClaim m_thoughtNeed m_thoughtAll m_acts m_undone m_laid m_firstMove m_seens m_time m_waysNow m_fitting 148 (f 148) from hT.1 148 (by decide))
  refine va_get (D := D) (cl := vwCl) (ci := 9) (v := .ref (ad 169)) (C := RX9) (T := TX9) (N := 64) hx hb hts in_X9_standWith_X9 hown hK hP 148 (wl_at (by decide) e16) rfl 37 (by decide) (hts (.fieldLink RX9 76 "EightReasonsModel" "all" "[I") (List.mem_of_getElem? (i := 1) rfl)) (fun _ h9 => h9) rfl dX9_standWith_2 ?_
  refine lv_iconst (v := 0) hx hb dX9_standWith_5 (by decide) ?_
  obtain ⟨g19, e17, h18⟩ := (show okIr cy 16 (0) (4095) 16 1 (f 169) from hT.1 169 (by decide))
  have ttl_0 := tl_0
  refine va_iald hx hb hK hP 169 0 (wl_at (by decide) e17) rfl (vin (by decide)) dX9_standWith_6 ?_
  refine lv_topi (fun x20 ex20 => ?_)
  refine lv_iload_n hx hb dX9_standWith_7 rfl (lv_at hl 1 rfl) ?_
  refine tVI (As := [.int x20, .int p1]) (rest := []) (i := 148) ⟨hx, hb, hml, hown, hts⟩ hK hE hP hD hS hA hAB (s_X9_standBy_0 l B0 adK adV D cy ad fr0 c_text m_taped m_size m_faultKind m_faultPlace m_at m_end m_token m_number m_name c_points c_strands c_units c_told c_ruleFrom c_ruleTo c_code c_eWhat c_eSign m_bank m_rb m_codes m_within m_piled m_unitsInRule m_askStrand m_askTied m_thoughtClaim m_thoughtNeed m_thoughtAll c_roundOf m_acts m_undone m_laid m_firstMove m_seens m_time m_waysNow m_fitting f hT x20 p1 (by omega) hCV _) (cwV 2 hts gX9_standWith_X9_standBy rfl rfl rfl (by decide +kernel) ⟨Nat.le_of_ble_eq_true rfl, Nat.le_of_ble_eq_true rfl⟩) (by decide) 9 e16 rfl rfl hl.1 rfl (Nat.le_of_ble_eq_true rfl) dX9_standWith_8 ⟨Nat.le_of_ble_eq_true rfl, Nat.le_of_ble_eq_true rfl⟩ (fun r f H locs hw hP hD hS => ?_)
  obtain ⟨hrs, x21, x22, y23, hT, h24⟩ := hw
  obtain ⟨x25, rfl⟩ : ∃ q, q = r := ⟨_, rfl⟩
  have h26 := hrs
  exact tI hx hb hr hlk rfl hP hS ⟨(by omega), ⟨x21, x22, y23, hT, by omega⟩⟩ dX9_standWith_11
set_option maxHeartbeats 4000000 in
set_option maxRecDepth 100000 in
theorem s_X9_doesStand_0 (l : Launch) (B0 : Nat) (adK adV : Nat → Nat) (D : va_G) (cy : Nat → ClassId) (ad : Nat → Nat) (fr0 : Nat → va_E) (c_text : Nat → Int32) (m_taped : Int32) (m_size : Int32) (m_faultKind : Int32) (m_faultPlace : Int32) (m_at : Int32) (m_end : Int32) (m_token : Int32) (m_number : Int32) (m_name : Int64) (c_points : Nat → Int32) (c_strands : Nat → Int32) (c_units : Nat → Int32) (c_told : Nat → Int32) (c_ruleFrom : Nat → Int32) (c_ruleTo : Nat → Int32) (c_code : Nat → Int32) (c_eWhat : Nat → Int32) (c_eSign : Nat → Int32) (m_bank : Int32) (m_rb : Int32) (m_codes : Int32) (m_within : Int32) (m_piled : Int32) (m_unitsInRule : Int32) (m_askStrand : Int32) (m_askTied : Int32) (m_thoughtClaim : Int32) (m_thoughtNeed : Int32) (m_thoughtAll : Int32) (c_roundOf : Nat → Int32) (m_acts : Int32) (m_undone : Int32) (m_laid : Int32) (m_firstMove : Int32) (m_seens : Int32) (m_time : Int32) (m_waysNow : Int32) (m_fitting : Int32) (f : Nat → va_E) (hT : TYm ad cy fr0 c_text m_taped m_size m_faultKind m_faultPlace m_at m_end m_token m_number m_name c_points c_strands c_units c_told c_ruleFrom c_ruleTo c_code c_eWhat c_eSign m_bank m_rb m_codes m_within m_piled m_unitsInRule m_askStrand m_askTied m_thoughtClaim m_thoughtNeed m_thoughtAll c_roundOf m_acts m_undone m_laid m_firstMove m_seens m_time m_waysNow m_fitting f) (p1 : Int32) (hp1 : 0 ≤ p1.toInt ∧ p1.toInt ≤ 9) (p2 : Int32) (hp2 : 0 ≤ p2.toInt ∧ p2.toInt ≤ 4095) (hCV : CVp c_told c_ruleFrom c_ruleTo c_code m_bank) (sz : Nat) : TtI l yX9_doesStand wsX9_doesStand 7 159 [.ref (ad 148), .int p1, .int p2] B0 adK adV D cy ad f sz (fun (r : Int32) (g : Nat → va_E) => ((r = 1) ∨ (r = 0)) ∧ (∃ (m_askStrand' : Int32) (m_askTied' : Int32) (c_roundOf' : Nat → Int32), TYm ad cy fr0 c_text m_taped m_size m_faultKind m_faultPlace m_at m_end m_token m_number m_name c_points c_strands c_units c_told c_ruleFrom c_ruleTo c_code c_eWhat c_eSign m_bank m_rb m_codes m_within m_piled m_unitsInRule m_askStrand' m_askTied' m_thoughtClaim m_thoughtNeed m_thoughtAll c_roundOf' m_acts m_undone m_laid m_firstMove m_seens m_time m_waysNow m_fitting g ∧ (0 ≤ m_askTied'.toInt ∧ m_askTied'.toInt ≤ 4095))) := by
  refine TtI.of (cc := cX9_doesStand) (maxL := 3) (ty := .boolean) (own := RX9) (by decide) rfl (Nat.le_of_ble_eq_true rfl) rfl ?_
  intro p e s m below meth c A ls hx hb hr hml hts hown hlk hK hE hP hD hS hA hAB hl
  have hl : lv_has ls 3 [(0, .ref (ad 148)), (1, .int p1), (2, .int p2)] := hl
  refine st0 (fun H locs hP hS => ?_) hP hS
  refine lv_aload_n hx hb dX9_doesStand_0 rfl (lv_at hl 0 rfl) ?_
  refine lv_iload_n hx hb dX9_doesStand_1 rfl (lv_at hl 2 rfl) ?_
  obtain ⟨e16, h1, h2, h3, h4, h5, h6, h7, h8, h9, h10, h11, h12, h13, h14, h15⟩ := (show okX9 ad m_taped m_size m_faultKind m_faultPlace m_at m_end m_token m_number m_name m_bank m_rb m_codes m_within m_piled m_unitsInRule m_askStrand m_askTied m_thoughtClaim m_thoughtNeed m_thoughtAll m_acts m_undone m_laid m_firstMove m_seens m_time m_waysNow m_fitting 148 (f 148) from hT.1 148 (by decide))
  refine tVI (As := [.int p2]) (rest := []) (i := 148) ⟨hx, hb, hml, hown, hts⟩ hK hE hP hD hS hA hAB (s_X9_standWith_0 l B0 adK adV D cy ad fr0 c_text m_taped m_size m_faultKind m_faultPlace m_at m_end m_token m_number m_name c_points c_strands c_units c_told c_ruleFrom c_ruleTo c_code c_eWhat c_eSign m_bank m_rb m_codes m_within m_piled m_unitsInRule m_askStrand m_askTied m_thoughtClaim m_thoughtNeed m_thoughtAll c_roundOf m_acts m_undone m_laid m_firstMove m_seens m_time m_waysNow m_fitting f hT p2 (by omega) hCV _) (cwV 1 hts gX9_doesStand_X9_standWith rfl rfl rfl (by decide +kernel) ⟨Nat.le_of_ble_eq_true rfl, Nat.le_of_ble_eq_true rfl⟩) (by decide) 9 e16 rfl rfl hl.1 rfl (Nat.le_of_ble_eq_true rfl) dX9_doesStand_2 ⟨Nat.le_of_ble_eq_true rfl, Nat.le_of_ble_eq_true rfl⟩ (fun r f H locs hw hP hD hS => ?_)
  obtain ⟨hrs, x17, x18, y19, hT, h20⟩ := hw
  obtain ⟨x21, rfl⟩ : ∃ q, q = r := ⟨_, rfl⟩
  have h22 := hrs
  refine lv_iload_n hx hb dX9_doesStand_5 rfl (lv_at hl 1 rfl) ?_
  refine tSI (As := [.int x21, .int p1]) (rest := []) ⟨hx, hb, hml, hown, hts⟩ hK hE hP hD hS hA hAB (s_X9_bit_0 l B0 adK adV D cy ad f x21 p1 (by omega) _) (va_cwS 2 hts gX9_doesStand_X9_bit rfl rfl rfl (by decide +kernel) ⟨Nat.le_of_ble_eq_true rfl, Nat.le_of_ble_eq_true rfl⟩) rfl hl.1 rfl (Nat.le_of_ble_eq_true rfl) dX9_doesStand_6 ⟨Nat.le_of_ble_eq_true rfl, Nat.le_of_ble_eq_true rfl⟩ (fun r g H locs hw hP hD hS => ?_)
  obtain ⟨hrs, rfl⟩ := hw
  obtain ⟨x23, rfl⟩ : ∃ q, q = r := ⟨_, rfl⟩
  rcases hrs with ⟨rfl, h24⟩ | ⟨rfl, h25⟩
  · have ttl_1 := tl_1
    exact tI hx hb hr hlk rfl hP hS ⟨(Or.inl rfl), ⟨x17, x18, y19, hT, by omega⟩⟩ dX9_doesStand_9
  · have ttl_0 := tl_0
    exact tI hx hb hr hlk rfl hP hS ⟨(Or.inr rfl), ⟨x17, x18, y19, hT, by omega⟩⟩ dX9_doesStand_9
set_option maxHeartbeats 4000000 in
set_option maxRecDepth 100000 in
theorem s_X9_isLess_0 (l : Launch) (B0 : Nat) (adK adV : Nat → Nat) (D : va_G) (cy : Nat → ClassId) (ad : Nat → Nat) (f : Nat → va_E) (p0 : Int32) (hp0 : 0 ≤ p0.toInt ∧ p0.toInt ≤ 4095) (p1 : Int32) (hp1 : -1 ≤ p1.toInt ∧ p1.toInt ≤ 4095) (sz : Nat) : TtI l yX9_isLess wsX9_isLess 1 22 [.int p0, .int p1] B0 adK adV D cy ad f sz (fun (r : Int32) (g : Nat → va_E) => ((r = 1) ∨ (r = 0)) ∧ (f = g)) := by
  refine TtI.of (cc := cX9_isLess) (maxL := 2) (ty := .boolean) (own := RX9) (by decide) rfl (Nat.le_of_ble_eq_true rfl) rfl ?_
  intro p e s m below meth c A ls hx hb hr hml hts hown hlk hK hE hP hD hS hA hAB hl
  have hl : lv_has ls 2 [(0, .int p0), (1, .int p1)] := hl
  refine st0 (fun H locs hP hS => ?_) hP hS
  have j15 : ∀ (H : Heap) (locs : List Loc) (ls : Array Slot), (0 ≤ p0.toInt ∧ p0.toInt ≤ 4095) → (-1 ≤ p1.toInt ∧ p1.toInt ≤ 4095) → (va_P D vwCl (wl ad f) H) → (va_D A (wl ad f)) → (va_S A s.heap H locs) → (lv_has ls 2 [(0, .int p0), (1, .int p1)]) → W p l e (rmO 1 22 0 0) s m ([.int p0, .int p1] : List Value).toArray below meth c H locs 0 0 (MQ below (va_Qi (fun (r : Int32) (g : Nat → va_E) => ((r = 1) ∨ (r = 0)) ∧ (f = g)) (fun g t => PstT D ad g t) A) ([.int p0, .int p1] : List Value).toArray s 0 0 A) (F0 m 15 ls []) := by
    intro H locs ls hv15_l0 hv15_l1 hP hD hS hl
    refine lv_iconst (v := 1) hx hb dX9_isLess_15 (by decide) ?_
    refine lv_goto (tgt := 20) hx hb dX9_isLess_16 (by decide) ?_
    have ttl_1 := tl_1
    exact tI hx hb hr hlk rfl hP hS ⟨(Or.inl rfl), rfl⟩ dX9_isLess_20
  refine lv_iload_n hx hb dX9_isLess_0 rfl (lv_at hl 1 rfl) ?_
  have ttl_0 := tl_0
  refine lv_if_lt (tgt := 15) hx hb dX9_isLess_1 (by decide) (fun c1 => ?_) (fun c1 => ?_)
  · have kc1 := c_lt c1
    exact j15 H locs ls (by omega) (by omega) hP hD hS (lv_sub hl [0, 1] rfl)
  · have kc1 := c_nlt c1
    refine lv_iload_n hx hb dX9_isLess_4 rfl (lv_at hl 0 rfl) ?_
    refine tSI (As := [.int p0]) (rest := []) ⟨hx, hb, hml, hown, hts⟩ hK hE hP hD hS hA hAB (s_X9_bitsOf_0 l B0 adK adV D cy ad f p0 (by omega) _) (va_cwS 1 hts gX9_isLess_X9_bitsOf rfl rfl rfl (by decide +kernel) ⟨Nat.le_of_ble_eq_true rfl, Nat.le_of_ble_eq_true rfl⟩) rfl hl.1 rfl (Nat.le_of_ble_eq_true rfl) dX9_isLess_5 ⟨Nat.le_of_ble_eq_true rfl, Nat.le_of_ble_eq_true rfl⟩ (fun r g H locs hw hP hD hS => ?_)
    obtain ⟨hrs, rfl⟩ := hw
    obtain ⟨x2, rfl⟩ : ∃ q, q = r := ⟨_, rfl⟩
    have h3 := hrs
    refine lv_iload_n hx hb dX9_isLess_8 rfl (lv_at hl 1 rfl) ?_
    refine tSI (As := [.int p1]) (rest := [.int x2]) ⟨hx, hb, hml, hown, hts⟩ hK hE hP hD hS hA hAB (s_X9_bitsOf_0 l B0 adK adV D cy ad f p1 (by omega) _) (va_cwS 1 hts gX9_isLess_X9_bitsOf rfl rfl rfl (by decide +kernel) ⟨Nat.le_of_ble_eq_true rfl, Nat.le_of_ble_eq_true rfl⟩) rfl hl.1 rfl (Nat.le_of_ble_eq_true rfl) dX9_isLess_9 ⟨Nat.le_of_ble_eq_true rfl, Nat.le_of_ble_eq_true rfl⟩ (fun r g H locs hw hP hD hS => ?_)
    obtain ⟨hrs, rfl⟩ := hw
    obtain ⟨x4, rfl⟩ : ∃ q, q = r := ⟨_, rfl⟩
    have h5 := hrs
    refine lv_icmp_ge (tgt := 19) hx hb dX9_isLess_12 (by decide) (fun c6 => ?_) (fun c6 => ?_)
    · have kc6 := c_le c6
      refine lv_iconst (v := 0) hx hb dX9_isLess_19 (by decide) ?_
      exact tI hx hb hr hlk rfl hP hS ⟨(Or.inr rfl), rfl⟩ dX9_isLess_20
    · have kc6 := c_nle c6
      exact j15 H locs ls (by omega) (by omega) hP hD hS (lv_sub hl [0, 1] rfl)
set_option maxHeartbeats 4000000 in
set_option maxRecDepth 100000 in
theorem s_X9_toppleOf_0 (l : Launch) (B0 : Nat) (adK adV : Nat → Nat) (D : va_G) (cy : Nat → ClassId) (ad : Nat → Nat) (fr0 : Nat → va_E) (c_text : Nat → Int32) (m_taped : Int32) (m_size : Int32) (m_faultKind : Int32) (m_faultPlace : Int32) (m_at : Int32) (m_end : Int32) (m_token : Int32) (m_number : Int32) (m_name : Int64) (c_points : Nat → Int32) (c_strands : Nat → Int32) (c_units : Nat → Int32) (c_told : Nat → Int32) (c_ruleFrom : Nat → Int32) (c_ruleTo : Nat → Int32) (c_code : Nat → Int32) (c_eWhat : Nat → Int32) (c_eSign : Nat → Int32) (m_bank : Int32) (m_rb : Int32) (m_codes : Int32) (m_within : Int32) (m_piled : Int32) (m_unitsInRule : Int32) (m_askStrand : Int32) (m_askTied : Int32) (m_thoughtClaim : Int32) (m_thoughtNeed : Int32) (m_thoughtAll : Int32) (c_roundOf : Nat → Int32) (m_acts : Int32) (m_undone : Int32) (m_laid : Int32) (m_firstMove : Int32) (m_seens : Int32) (m_time : Int32) (m_waysNow : Int32) (m_fitting : Int32) (f : Nat → va_E) (hT : TYm ad cy fr0 c_text m_taped m_size m_faultKind m_faultPlace m_at m_end m_token m_number m_name c_points c_strands c_units c_told c_ruleFrom c_ruleTo c_code c_eWhat c_eSign m_bank m_rb m_codes m_within m_piled m_unitsInRule m_askStrand m_askTied m_thoughtClaim m_thoughtNeed m_thoughtAll c_roundOf m_acts m_undone m_laid m_firstMove m_seens m_time m_waysNow m_fitting f) (p1 : Int32) (hp1 : 0 ≤ p1.toInt ∧ p1.toInt ≤ 9) (hCV : CVp c_told c_ruleFrom c_ruleTo c_code m_bank) (sz : Nat) : TtI l yX9_toppleOf wsX9_toppleOf 8 181 [.ref (ad 148), .int p1] B0 adK adV D cy ad f sz (fun (r : Int32) (g : Nat → va_E) => (-1 ≤ r.toInt ∧ r.toInt ≤ 4095) ∧ (∃ (m_askStrand' : Int32) (m_askTied' : Int32) (c_roundOf' : Nat → Int32), TYm ad cy fr0 c_text m_taped m_size m_faultKind m_faultPlace m_at m_end m_token m_number m_name c_points c_strands c_units c_told c_ruleFrom c_ruleTo c_code c_eWhat c_eSign m_bank m_rb m_codes m_within m_piled m_unitsInRule m_askStrand' m_askTied' m_thoughtClaim m_thoughtNeed m_thoughtAll c_roundOf' m_acts m_undone m_laid m_firstMove m_seens m_time m_waysNow m_fitting g)) := by
  refine TtI.of (cc := cX9_toppleOf) (maxL := 4) (ty := .int) (own := RX9) (by decide) rfl (Nat.le_of_ble_eq_true rfl) rfl ?_
  intro p e s m below meth c A ls hx hb hr hml hts hown hlk hK hE hP hD hS hA hAB hl
  have hl : lv_has ls 4 [(0, .ref (ad 148)), (1, .int p1)] := hl
  refine st0 (fun H locs hP hS => ?_) hP hS
  have j4 : ∀ (N : Nat) (f : Nat → va_E) (H : Heap) (locs : List Loc) (ls : Array Slot) (v4_l3 : Int32) (v4_l2 : Int32) (v4_p_m_askStrand : Int32) (v4_p_m_askTied : Int32) (v4_p_c_roundOf : Nat → Int32), (4097 - v4_l3.toInt ≤ (N : Int)) → (0 ≤ v4_l3.toInt ∧ v4_l3.toInt ≤ 4096) → (-1 ≤ v4_l2.toInt ∧ v4_l2.toInt ≤ 4095) → (0 ≤ p1.toInt ∧ p1.toInt ≤ 9) → (TYm ad cy fr0 c_text m_taped m_size m_faultKind m_faultPlace m_at m_end m_token m_number m_name c_points c_strands c_units c_told c_ruleFrom c_ruleTo c_code c_eWhat c_eSign m_bank m_rb m_codes m_within m_piled m_unitsInRule v4_p_m_askStrand v4_p_m_askTied m_thoughtClaim m_thoughtNeed m_thoughtAll v4_p_c_roundOf m_acts m_undone m_laid m_firstMove m_seens m_time m_waysNow m_fitting f) → (va_P D vwCl (wl ad f) H) → (va_D A (wl ad f)) → (va_S A s.heap H locs) → (lv_has ls 4 [(3, .int v4_l3), (2, .int v4_l2), (0, .ref (ad 148)), (1, .int p1)]) → W p l e (rmO 8 181 0 0) s m ([.ref (ad 148), .int p1] : List Value).toArray below meth c H locs 0 0 (MQ below (va_Qi (fun (r : Int32) (g : Nat → va_E) => (-1 ≤ r.toInt ∧ r.toInt ≤ 4095) ∧ (∃ (m_askStrand' : Int32) (m_askTied' : Int32) (c_roundOf' : Nat → Int32), TYm ad cy fr0 c_text m_taped m_size m_faultKind m_faultPlace m_at m_end m_token m_number m_name c_points c_strands c_units c_told c_ruleFrom c_ruleTo c_code c_eWhat c_eSign m_bank m_rb m_codes m_within m_piled m_unitsInRule m_askStrand' m_askTied' m_thoughtClaim m_thoughtNeed m_thoughtAll c_roundOf' m_acts m_undone m_laid m_firstMove m_seens m_time m_waysNow m_fitting g)) (fun g t => PstT D ad g t) A) ([.ref (ad 148), .int p1] : List Value).toArray s 0 0 A) (F0 m 4 ls []) := by
    intro N
    induction N with
    | zero => intro f H locs ls v4_l3 v4_l2 v4_p_m_askStrand v4_p_m_askTied v4_p_c_roundOf hN hv4_l3 hv4_l2 hv4_l1 hT hP hD hS hl; exact absurd hN (by omega)
    | succ N ih4 =>
      intro f H locs ls v4_l3 v4_l2 v4_p_m_askStrand v4_p_m_askTied v4_p_c_roundOf hN hv4_l3 hv4_l2 hv4_l1 hT hP hD hS hl
      have j55 : ∀ (f : Nat → va_E) (H : Heap) (locs : List Loc) (ls : Array Slot) (v55_l2 : Int32) (v55_p_m_askStrand : Int32) (v55_p_m_askTied : Int32) (v55_p_c_roundOf : Nat → Int32), (0 ≤ v4_l3.toInt ∧ v4_l3.toInt ≤ 4095) → (-1 ≤ v55_l2.toInt ∧ v55_l2.toInt ≤ 4095) → (0 ≤ p1.toInt ∧ p1.toInt ≤ 9) → (TYm ad cy fr0 c_text m_taped m_size m_faultKind m_faultPlace m_at m_end m_token m_number m_name c_points c_strands c_units c_told c_ruleFrom c_ruleTo c_code c_eWhat c_eSign m_bank m_rb m_codes m_within m_piled m_unitsInRule v55_p_m_askStrand v55_p_m_askTied m_thoughtClaim m_thoughtNeed m_thoughtAll v55_p_c_roundOf m_acts m_undone m_laid m_firstMove m_seens m_time m_waysNow m_fitting f) → (va_P D vwCl (wl ad f) H) → (va_D A (wl ad f)) → (va_S A s.heap H locs) → (lv_has ls 4 [(3, .int v4_l3), (2, .int v55_l2), (0, .ref (ad 148)), (1, .int p1)]) → W p l e (rmO 8 181 0 0) s m ([.ref (ad 148), .int p1] : List Value).toArray below meth c H locs 0 0 (MQ below (va_Qi (fun (r : Int32) (g : Nat → va_E) => (-1 ≤ r.toInt ∧ r.toInt ≤ 4095) ∧ (∃ (m_askStrand' : Int32) (m_askTied' : Int32) (c_roundOf' : Nat → Int32), TYm ad cy fr0 c_text m_taped m_size m_faultKind m_faultPlace m_at m_end m_token m_number m_name c_points c_strands c_units c_told c_ruleFrom c_ruleTo c_code c_eWhat c_eSign m_bank m_rb m_codes m_within m_piled m_unitsInRule m_askStrand' m_askTied' m_thoughtClaim m_thoughtNeed m_thoughtAll c_roundOf' m_acts m_undone m_laid m_firstMove m_seens m_time m_waysNow m_fitting g)) (fun g t => PstT D ad g t) A) ([.ref (ad 148), .int p1] : List Value).toArray s 0 0 A) (F0 m 55 ls []) := by
        intro f H locs ls v55_l2 v55_p_m_askStrand v55_p_m_askTied v55_p_c_roundOf hv55_l3 hv55_l2 hv55_l1 hT hP hD hS hl
        obtain ⟨x1, ex1⟩ : ∃ q : Int32, q = v4_l3 + Int32.ofInt (1) := ⟨_, rfl⟩
        refine lv_iinc (v := x1) (lv' := [(3, .int x1), (2, .int v55_l2), (0, .ref (ad 148)), (1, .int p1)]) hx hb dX9_toppleOf_55 hl (k := 0) rfl ex1.symm (by decide) rfl (fun ls hl => ?_)
        have hx1 := r_inc ex1 (by decide) (by omega) (by omega)
        refine lv_goto (tgt := 4) hx hb dX9_toppleOf_58 (by decide) ?_
        exact ih4 f H locs ls x1 v55_l2 v55_p_m_askStrand v55_p_m_askTied v55_p_c_roundOf (by omega) (by omega) (by omega) (by omega) hT hP hD hS (lv_sub hl [0, 1, 2, 3] rfl)
      refine lv_iload_n hx hb dX9_toppleOf_4 rfl (lv_at hl 0 rfl) ?_
      refine lv_aload_n hx hb dX9_toppleOf_5 rfl (lv_at hl 2 rfl) ?_
      obtain ⟨e17, h2, h3, h4, h5, h6, h7, h8, h9, h10, h11, h12, h13, h14, h15, h16⟩ := (show okX9 ad m_taped m_size m_faultKind m_faultPlace m_at m_end m_token m_number m_name m_bank m_rb m_codes m_within m_piled m_unitsInRule v4_p_m_askStrand v4_p_m_askTied m_thoughtClaim m_thoughtNeed m_thoughtAll m_acts m_undone m_laid m_firstMove m_seens m_time m_waysNow m_fitting 148 (f 148) from hT.1 148 (by decide))
      refine va_get (D := D) (cl := vwCl) (ci := 9) (v := .ref (ad 169)) (C := RX9) (T := TX9) (N := 64) hx hb hts in_X9_toppleOf_X9 hown hK hP 148 (wl_at (by decide) e17) rfl 37 (by decide) (hts (.fieldLink RX9 76 "EightReasonsModel" "all" "[I") (List.mem_of_getElem? (i := 1) rfl)) (fun _ h9 => h9) rfl dX9_toppleOf_6 ?_
      refine lv_iconst (v := 1) hx hb dX9_toppleOf_9 (by decide) ?_
      obtain ⟨g20, e18, h19⟩ := (show okIr cy 16 (0) (4095) 16 1 (f 169) from hT.1 169 (by decide))
      have ttl_1 := tl_1
      refine va_iald hx hb hK hP 169 0 (wl_at (by decide) e18) rfl (vin (by decide)) dX9_toppleOf_10 ?_
      refine lv_topi (fun x21 ex21 => ?_)
      have hx21 := r_el (h19 _ (by decide)) ex21
      refine lv_icmp_gt (tgt := 61) hx hb dX9_toppleOf_11 (by decide) (fun c22 => ?_) (fun c22 => ?_)
      · have kc22 := c_lt c22
        refine lv_iload_n hx hb dX9_toppleOf_61 rfl (lv_at hl 1 rfl) ?_
        exact tI hx hb hr hlk rfl hP hS ⟨(by omega), ⟨v4_p_m_askStrand, v4_p_m_askTied, v4_p_c_roundOf, hT⟩⟩ dX9_toppleOf_62
      · have kc22 := c_nlt c22
        refine lv_iload_n hx hb dX9_toppleOf_14 rfl (lv_at hl 0 rfl) ?_
        refine lv_aload_n hx hb dX9_toppleOf_15 rfl (lv_at hl 2 rfl) ?_
        refine va_get (D := D) (cl := vwCl) (ci := 9) (v := .ref (ad 169)) (C := RX9) (T := TX9) (N := 64) hx hb hts in_X9_toppleOf_X9 hown hK hP 148 (wl_at (by decide) e17) rfl 37 (by decide) (hts (.fieldLink RX9 76 "EightReasonsModel" "all" "[I") (List.mem_of_getElem? (i := 1) rfl)) (fun _ h9 => h9) rfl dX9_toppleOf_16 ?_
        refine lv_iconst (v := 1) hx hb dX9_toppleOf_19 (by decide) ?_
        refine va_iald hx hb hK hP 169 0 (wl_at (by decide) e18) rfl (vin (by decide)) dX9_toppleOf_20 ?_
        refine lv_topi (fun x23 ex23 => ?_)
        have hx23 := r_el (h19 _ (by decide)) ex23
        refine lv_iconst (v := (-1)) hx hb dX9_toppleOf_21 (by decide) ?_
        refine lv_ixor hx hb dX9_toppleOf_22 ?_
        refine lv_topi (fun x24 ex24 => ?_)
        refine lv_iand hx hb dX9_toppleOf_23 ?_
        refine lv_topi (fun x25 ex25 => ?_)
        have hx25 := r_andl ex25 (by omega)
        have ttl_0 := tl_0
        refine lv_if_ne (tgt := 55) hx hb dX9_toppleOf_24 (by decide) (fun c26 => ?_) (fun c26 => ?_)
        · have kc26 := c_ne c26
          exact j55 f H locs ls v4_l2 v4_p_m_askStrand v4_p_m_askTied v4_p_c_roundOf (by omega) (by omega) (by omega) hT hP hD hS (lv_sub hl [0, 1, 2, 3] rfl)
        · have kc26 := c_eq c26
          refine lv_iload_n hx hb dX9_toppleOf_27 rfl (lv_at hl 0 rfl) ?_
          refine lv_iload_n hx hb dX9_toppleOf_28 rfl (lv_at hl 1 rfl) ?_
          refine tSI (As := [.int v4_l3, .int v4_l2]) (rest := []) ⟨hx, hb, hml, hown, hts⟩ hK hE hP hD hS hA hAB (s_X9_isLess_0 l B0 adK adV D cy ad f v4_l3 (by omega) v4_l2 (by omega) _) (va_cwS 2 hts gX9_toppleOf_X9_isLess rfl rfl rfl (by decide +kernel) ⟨Nat.le_of_ble_eq_true rfl, Nat.le_of_ble_eq_true rfl⟩) rfl hl.1 rfl (Nat.le_of_ble_eq_true rfl) dX9_toppleOf_29 ⟨Nat.le_of_ble_eq_true rfl, Nat.le_of_ble_eq_true rfl⟩ (fun r g H locs hw hP hD hS => ?_)
          obtain ⟨hrs, rfl⟩ := hw
          obtain ⟨x27, rfl⟩ : ∃ q, q = r := ⟨_, rfl⟩
          rcases hrs with rfl | rfl
          · refine lv_if_eq (tgt := 55) hx hb dX9_toppleOf_32 (by decide) (fun c => absurd c (by decide)) (fun _ => ?_)
            refine lv_aload_n hx hb dX9_toppleOf_35 rfl (lv_at hl 2 rfl) ?_
            refine lv_iload_n hx hb dX9_toppleOf_36 rfl (lv_at hl 3 rfl) ?_
            refine lv_aload_n hx hb dX9_toppleOf_37 rfl (lv_at hl 2 rfl) ?_
            refine va_get (D := D) (cl := vwCl) (ci := 9) (v := .ref (ad 169)) (C := RX9) (T := TX9) (N := 64) hx hb hts in_X9_toppleOf_X9 hown hK hP 148 (wl_at (by decide) e17) rfl 37 (by decide) (hts (.fieldLink RX9 76 "EightReasonsModel" "all" "[I") (List.mem_of_getElem? (i := 1) rfl)) (fun _ h9 => h9) rfl dX9_toppleOf_38 ?_
            refine lv_iconst (v := 1) hx hb dX9_toppleOf_41 (by decide) ?_
            refine va_iald hx hb hK hP 169 0 (wl_at (by decide) e18) rfl (vin (by decide)) dX9_toppleOf_42 ?_
            refine lv_topi (fun x28 ex28 => ?_)
            have hx28 := r_el (h19 _ (by decide)) ex28
            refine lv_iload_n hx hb dX9_toppleOf_43 rfl (lv_at hl 0 rfl) ?_
            refine lv_iconst (v := (-1)) hx hb dX9_toppleOf_44 (by decide) ?_
            refine lv_ixor hx hb dX9_toppleOf_45 ?_
            refine lv_topi (fun x29 ex29 => ?_)
            refine lv_iand hx hb dX9_toppleOf_46 ?_
            refine lv_topi (fun x30 ex30 => ?_)
            have hx30 := r_andl ex30 (by omega)
            refine tVI (As := [.int p1, .int x30]) (rest := []) (i := 148) ⟨hx, hb, hml, hown, hts⟩ hK hE hP hD hS hA hAB (s_X9_doesStand_0 l B0 adK adV D cy ad fr0 c_text m_taped m_size m_faultKind m_faultPlace m_at m_end m_token m_number m_name c_points c_strands c_units c_told c_ruleFrom c_ruleTo c_code c_eWhat c_eSign m_bank m_rb m_codes m_within m_piled m_unitsInRule v4_p_m_askStrand v4_p_m_askTied m_thoughtClaim m_thoughtNeed m_thoughtAll v4_p_c_roundOf m_acts m_undone m_laid m_firstMove m_seens m_time m_waysNow m_fitting f hT p1 (by omega) x30 (by omega) hCV _) (cwV 2 hts gX9_toppleOf_X9_doesStand rfl rfl rfl (by decide +kernel) ⟨Nat.le_of_ble_eq_true rfl, Nat.le_of_ble_eq_true rfl⟩) (by decide) 9 e17 rfl rfl hl.1 rfl (Nat.le_of_ble_eq_true rfl) dX9_toppleOf_47 ⟨Nat.le_of_ble_eq_true rfl, Nat.le_of_ble_eq_true rfl⟩ (fun r f H locs hw hP hD hS => ?_)
            obtain ⟨hrs, x31, x32, y33, hT, h34⟩ := hw
            obtain ⟨x35, rfl⟩ : ∃ q, q = r := ⟨_, rfl⟩
            rcases hrs with rfl | rfl
            · refine lv_if_ne (tgt := 55) hx hb dX9_toppleOf_50 (by decide) (fun _ => ?_) (fun c => absurd c (by decide))
              exact j55 f H locs ls v4_l2 x31 x32 y33 (by omega) (by omega) (by omega) hT hP hD hS (lv_sub hl [0, 1, 2, 3] rfl)
            · refine lv_if_ne (tgt := 55) hx hb dX9_toppleOf_50 (by decide) (fun c => absurd (by decide) c) (fun _ => ?_)
              refine lv_iload_n hx hb dX9_toppleOf_53 rfl (lv_at hl 0 rfl) ?_
              refine lv_istore_n (lv' := [(2, .int v4_l3), (3, .int v4_l3), (0, .ref (ad 148)), (1, .int p1)]) hx hb dX9_toppleOf_54 rfl hl (by decide) rfl (fun ls hl => ?_)
              exact j55 f H locs ls v4_l3 x31 x32 y33 (by omega) (by omega) (by omega) hT hP hD hS (lv_sub hl [1, 0, 2, 3] rfl)
          · refine lv_if_eq (tgt := 55) hx hb dX9_toppleOf_32 (by decide) (fun _ => ?_) (fun c => absurd (by decide) c)
            exact j55 f H locs ls v4_l2 v4_p_m_askStrand v4_p_m_askTied v4_p_c_roundOf (by omega) (by omega) (by omega) hT hP hD hS (lv_sub hl [0, 1, 2, 3] rfl)
  refine lv_iconst (v := (-1)) hx hb dX9_toppleOf_0 (by decide) ?_
  refine lv_istore_n (lv' := [(2, .int (-1)), (0, .ref (ad 148)), (1, .int p1)]) hx hb dX9_toppleOf_1 rfl hl (by decide) rfl (fun ls hl => ?_)
  refine lv_iconst (v := 0) hx hb dX9_toppleOf_2 (by decide) ?_
  refine lv_istore_n (lv' := [(3, .int 0), (2, .int (-1)), (0, .ref (ad 148)), (1, .int p1)]) hx hb dX9_toppleOf_3 rfl hl (by decide) rfl (fun ls hl => ?_)
  have ttl_0 := tl_0
  have ttl_m1 := tl_m1
  exact j4 (Int.toNat (4097 - (0 : Int32).toInt)) f H locs ls (0 : Int32) ((-1) : Int32) m_askStrand m_askTied c_roundOf (by omega) (by omega) (by omega) (by omega) hT hP hD hS (lv_sub hl [0, 1, 2, 3] rfl)
set_option maxHeartbeats 4000000 in
set_option maxRecDepth 100000 in
theorem s_X9_topple_0 (l : Launch) (B0 : Nat) (adK adV : Nat → Nat) (D : va_G) (cy : Nat → ClassId) (ad : Nat → Nat) (fr0 : Nat → va_E) (c_text : Nat → Int32) (m_taped : Int32) (m_size : Int32) (m_faultKind : Int32) (m_faultPlace : Int32) (m_at : Int32) (m_end : Int32) (m_token : Int32) (m_number : Int32) (m_name : Int64) (c_points : Nat → Int32) (c_strands : Nat → Int32) (c_units : Nat → Int32) (c_told : Nat → Int32) (c_ruleFrom : Nat → Int32) (c_ruleTo : Nat → Int32) (c_code : Nat → Int32) (c_eWhat : Nat → Int32) (c_eSign : Nat → Int32) (m_bank : Int32) (m_rb : Int32) (m_codes : Int32) (m_within : Int32) (m_piled : Int32) (m_unitsInRule : Int32) (m_askStrand : Int32) (m_askTied : Int32) (m_thoughtClaim : Int32) (m_thoughtNeed : Int32) (m_thoughtAll : Int32) (c_roundOf : Nat → Int32) (m_acts : Int32) (m_undone : Int32) (m_laid : Int32) (m_firstMove : Int32) (m_seens : Int32) (m_time : Int32) (m_waysNow : Int32) (m_fitting : Int32) (f : Nat → va_E) (hT : TYm ad cy fr0 c_text m_taped m_size m_faultKind m_faultPlace m_at m_end m_token m_number m_name c_points c_strands c_units c_told c_ruleFrom c_ruleTo c_code c_eWhat c_eSign m_bank m_rb m_codes m_within m_piled m_unitsInRule m_askStrand m_askTied m_thoughtClaim m_thoughtNeed m_thoughtAll c_roundOf m_acts m_undone m_laid m_firstMove m_seens m_time m_waysNow m_fitting f) (p1 : Int32) (p2 : Int32) (hCV : CVp c_told c_ruleFrom c_ruleTo c_code m_bank) (sz : Nat) : TtI l yX9_topple wsX9_topple 9 204 [.ref (ad 148), .int p1, .int p2] B0 adK adV D cy ad f sz (fun (r : Int32) (g : Nat → va_E) => (-1 ≤ r.toInt ∧ r.toInt ≤ 4095) ∧ (∃ (m_askStrand' : Int32) (m_askTied' : Int32) (c_roundOf' : Nat → Int32), TYm ad cy fr0 c_text m_taped m_size m_faultKind m_faultPlace m_at m_end m_token m_number m_name c_points c_strands c_units c_told c_ruleFrom c_ruleTo c_code c_eWhat c_eSign m_bank m_rb m_codes m_within m_piled m_unitsInRule m_askStrand' m_askTied' m_thoughtClaim m_thoughtNeed m_thoughtAll c_roundOf' m_acts m_undone m_laid m_firstMove m_seens m_time m_waysNow m_fitting g)) := by
  refine TtI.of (cc := cX9_topple) (maxL := 3) (ty := .int) (own := RX9) (by decide) rfl (Nat.le_of_ble_eq_true rfl) rfl ?_
  intro p e s m below meth c A ls hx hb hr hml hts hown hlk hK hE hP hD hS hA hAB hl
  have hl : lv_has ls 3 [(0, .ref (ad 148)), (1, .int p1), (2, .int p2)] := hl
  refine st0 (fun H locs hP hS => ?_) hP hS
  refine lv_aload_n hx hb dX9_topple_0 rfl (lv_at hl 0 rfl) ?_
  refine lv_iload_n hx hb dX9_topple_1 rfl (lv_at hl 1 rfl) ?_
  obtain ⟨e16, h1, h2, h3, h4, h5, h6, h7, h8, h9, h10, h11, h12, h13, h14, h15⟩ := (show okX9 ad m_taped m_size m_faultKind m_faultPlace m_at m_end m_token m_number m_name m_bank m_rb m_codes m_within m_piled m_unitsInRule m_askStrand m_askTied m_thoughtClaim m_thoughtNeed m_thoughtAll m_acts m_undone m_laid m_firstMove m_seens m_time m_waysNow m_fitting 148 (f 148) from hT.1 148 (by decide))
  refine tVI (As := [.int p1]) (rest := []) (i := 148) ⟨hx, hb, hml, hown, hts⟩ hK hE hP hD hS hA hAB (s_X9_isClaim_0 l B0 adK adV D cy ad fr0 c_text m_taped m_size m_faultKind m_faultPlace m_at m_end m_token m_number m_name c_points c_strands c_units c_told c_ruleFrom c_ruleTo c_code c_eWhat c_eSign m_bank m_rb m_codes m_within m_piled m_unitsInRule m_askStrand m_askTied m_thoughtClaim m_thoughtNeed m_thoughtAll c_roundOf m_acts m_undone m_laid m_firstMove m_seens m_time m_waysNow m_fitting f hT p1 _) (cwV 1 hts gX9_topple_X9_isClaim rfl rfl rfl (by decide +kernel) ⟨Nat.le_of_ble_eq_true rfl, Nat.le_of_ble_eq_true rfl⟩) (by decide) 9 e16 rfl rfl hl.1 rfl (Nat.le_of_ble_eq_true rfl) dX9_topple_2 ⟨Nat.le_of_ble_eq_true rfl, Nat.le_of_ble_eq_true rfl⟩ (fun r g H locs hw hP hD hS => ?_)
  obtain ⟨hrs, rfl⟩ := hw
  obtain ⟨x17, rfl⟩ : ∃ q, q = r := ⟨_, rfl⟩
  rcases hrs with ⟨rfl, h18, h19⟩ | rfl
  · refine lv_if_eq (tgt := 29) hx hb dX9_topple_5 (by decide) (fun c => absurd c (by decide)) (fun _ => ?_)
    refine lv_iload_n hx hb dX9_topple_8 rfl (lv_at hl 2 rfl) ?_
    refine lv_iconst (v := 0) hx hb dX9_topple_9 (by decide) ?_
    refine lv_iconst (v := 1) hx hb dX9_topple_10 (by decide) ?_
    have ttl_0 := tl_0
    have ttl_1 := tl_1
    refine tSI (As := [.int p2, .int 0, .int 1]) (rest := []) ⟨hx, hb, hml, hown, hts⟩ hK hE hP hD hS hA hAB (s_X9_isIn_0 l B0 adK adV D cy ad f p2 (0 : Int32) (by omega) (1 : Int32) (by omega) _) (va_cwS 3 hts gX9_topple_X9_isIn rfl rfl rfl (by decide +kernel) ⟨Nat.le_of_ble_eq_true rfl, Nat.le_of_ble_eq_true rfl⟩) rfl hl.1 rfl (Nat.le_of_ble_eq_true rfl) dX9_topple_11 ⟨Nat.le_of_ble_eq_true rfl, Nat.le_of_ble_eq_true rfl⟩ (fun r g H locs hw hP hD hS => ?_)
    obtain ⟨hrs, rfl⟩ := hw
    obtain ⟨x20, rfl⟩ : ∃ q, q = r := ⟨_, rfl⟩
    rcases hrs with ⟨rfl, h21, h22⟩ | rfl
    · refine lv_if_eq (tgt := 29) hx hb dX9_topple_14 (by decide) (fun c => absurd c (by decide)) (fun _ => ?_)
      refine lv_aload_n hx hb dX9_topple_17 rfl (lv_at hl 0 rfl) ?_
      refine lv_iload_n hx hb dX9_topple_18 rfl (lv_at hl 1 rfl) ?_
      refine tVI (As := [.int p1]) (rest := []) (i := 148) ⟨hx, hb, hml, hown, hts⟩ hK hE hP hD hS hA hAB (s_X9_toppleOf_0 l B0 adK adV D cy ad fr0 c_text m_taped m_size m_faultKind m_faultPlace m_at m_end m_token m_number m_name c_points c_strands c_units c_told c_ruleFrom c_ruleTo c_code c_eWhat c_eSign m_bank m_rb m_codes m_within m_piled m_unitsInRule m_askStrand m_askTied m_thoughtClaim m_thoughtNeed m_thoughtAll c_roundOf m_acts m_undone m_laid m_firstMove m_seens m_time m_waysNow m_fitting f hT p1 (by omega) hCV _) (cwV 1 hts gX9_topple_X9_toppleOf rfl rfl rfl (by decide +kernel) ⟨Nat.le_of_ble_eq_true rfl, Nat.le_of_ble_eq_true rfl⟩) (by decide) 9 e16 rfl rfl hl.1 rfl (Nat.le_of_ble_eq_true rfl) dX9_topple_19 ⟨Nat.le_of_ble_eq_true rfl, Nat.le_of_ble_eq_true rfl⟩ (fun r f H locs hw hP hD hS => ?_)
      obtain ⟨hrs, x23, x24, y25, hT⟩ := hw
      obtain ⟨x26, rfl⟩ : ∃ q, q = r := ⟨_, rfl⟩
      have h27 := hrs
      refine lv_iload_n hx hb dX9_topple_22 rfl (lv_at hl 2 rfl) ?_
      refine tSI (As := [.int x26, .int p2]) (rest := []) ⟨hx, hb, hml, hown, hts⟩ hK hE hP hD hS hA hAB (s_X9_toldOf_0 l B0 adK adV D cy ad f x26 (by omega) p2 (by omega) _) (va_cwS 2 hts gX9_topple_X9_toldOf rfl rfl rfl (by decide +kernel) ⟨Nat.le_of_ble_eq_true rfl, Nat.le_of_ble_eq_true rfl⟩) rfl hl.1 rfl (Nat.le_of_ble_eq_true rfl) dX9_topple_23 ⟨Nat.le_of_ble_eq_true rfl, Nat.le_of_ble_eq_true rfl⟩ (fun r g H locs hw hP hD hS => ?_)
      obtain ⟨hrs, rfl⟩ := hw
      obtain ⟨x28, rfl⟩ : ∃ q, q = r := ⟨_, rfl⟩
      have h29 := hrs
      refine lv_goto (tgt := 30) hx hb dX9_topple_26 (by decide) ?_
      exact tI hx hb hr hlk rfl hP hS ⟨(by omega), ⟨x23, x24, y25, hT⟩⟩ dX9_topple_30
    · refine lv_if_eq (tgt := 29) hx hb dX9_topple_14 (by decide) (fun _ => ?_) (fun c => absurd (by decide) c)
      refine lv_iconst (v := (-1)) hx hb dX9_topple_29 (by decide) ?_
      have ttl_m1 := tl_m1
      exact tI hx hb hr hlk rfl hP hS ⟨(by omega), ⟨m_askStrand, m_askTied, c_roundOf, hT⟩⟩ dX9_topple_30
  · refine lv_if_eq (tgt := 29) hx hb dX9_topple_5 (by decide) (fun _ => ?_) (fun c => absurd (by decide) c)
    refine lv_iconst (v := (-1)) hx hb dX9_topple_29 (by decide) ?_
    have ttl_m1 := tl_m1
    exact tI hx hb hr hlk rfl hP hS ⟨(by omega), ⟨m_askStrand, m_askTied, c_roundOf, hT⟩⟩ dX9_topple_30
set_option maxHeartbeats 4000000 in
set_option maxRecDepth 100000 in
theorem s_X9_propOf_0 (l : Launch) (B0 : Nat) (adK adV : Nat → Nat) (D : va_G) (cy : Nat → ClassId) (ad : Nat → Nat) (fr0 : Nat → va_E) (c_text : Nat → Int32) (m_taped : Int32) (m_size : Int32) (m_faultKind : Int32) (m_faultPlace : Int32) (m_at : Int32) (m_end : Int32) (m_token : Int32) (m_number : Int32) (m_name : Int64) (c_points : Nat → Int32) (c_strands : Nat → Int32) (c_units : Nat → Int32) (c_told : Nat → Int32) (c_ruleFrom : Nat → Int32) (c_ruleTo : Nat → Int32) (c_code : Nat → Int32) (c_eWhat : Nat → Int32) (c_eSign : Nat → Int32) (m_bank : Int32) (m_rb : Int32) (m_codes : Int32) (m_within : Int32) (m_piled : Int32) (m_unitsInRule : Int32) (m_askStrand : Int32) (m_askTied : Int32) (m_thoughtClaim : Int32) (m_thoughtNeed : Int32) (m_thoughtAll : Int32) (c_roundOf : Nat → Int32) (m_acts : Int32) (m_undone : Int32) (m_laid : Int32) (m_firstMove : Int32) (m_seens : Int32) (m_time : Int32) (m_waysNow : Int32) (m_fitting : Int32) (f : Nat → va_E) (hT : TYm ad cy fr0 c_text m_taped m_size m_faultKind m_faultPlace m_at m_end m_token m_number m_name c_points c_strands c_units c_told c_ruleFrom c_ruleTo c_code c_eWhat c_eSign m_bank m_rb m_codes m_within m_piled m_unitsInRule m_askStrand m_askTied m_thoughtClaim m_thoughtNeed m_thoughtAll c_roundOf m_acts m_undone m_laid m_firstMove m_seens m_time m_waysNow m_fitting f) (p1 : Int32) (hp1 : 0 ≤ p1.toInt ∧ p1.toInt ≤ 9) (hCV : CVp c_told c_ruleFrom c_ruleTo c_code m_bank) (sz : Nat) : TtI l yX9_propOf wsX9_propOf 8 181 [.ref (ad 148), .int p1] B0 adK adV D cy ad f sz (fun (r : Int32) (g : Nat → va_E) => (-1 ≤ r.toInt ∧ r.toInt ≤ 4095) ∧ (∃ (m_askStrand' : Int32) (m_askTied' : Int32) (c_roundOf' : Nat → Int32), TYm ad cy fr0 c_text m_taped m_size m_faultKind m_faultPlace m_at m_end m_token m_number m_name c_points c_strands c_units c_told c_ruleFrom c_ruleTo c_code c_eWhat c_eSign m_bank m_rb m_codes m_within m_piled m_unitsInRule m_askStrand' m_askTied' m_thoughtClaim m_thoughtNeed m_thoughtAll c_roundOf' m_acts m_undone m_laid m_firstMove m_seens m_time m_waysNow m_fitting g ∧ (0 ≤ m_askTied'.toInt ∧ m_askTied'.toInt ≤ 4095))) := by
  refine TtI.of (cc := cX9_propOf) (maxL := 4) (ty := .int) (own := RX9) (by decide) rfl (Nat.le_of_ble_eq_true rfl) rfl ?_
  intro p e s m below meth c A ls hx hb hr hml hts hown hlk hK hE hP hD hS hA hAB hl
  have hl : lv_has ls 4 [(0, .ref (ad 148)), (1, .int p1)] := hl
  refine st0 (fun H locs hP hS => ?_) hP hS
  have j17 : ∀ (N : Nat) (f : Nat → va_E) (H : Heap) (locs : List Loc) (ls : Array Slot) (v17_l3 : Int32) (v17_l2 : Int32) (v17_p_m_askStrand : Int32) (v17_p_m_askTied : Int32) (v17_p_c_roundOf : Nat → Int32), (4097 - v17_l3.toInt ≤ (N : Int)) → (0 ≤ v17_l3.toInt ∧ v17_l3.toInt ≤ 4096) → (-1 ≤ v17_l2.toInt ∧ v17_l2.toInt ≤ 4095) → (0 ≤ p1.toInt ∧ p1.toInt ≤ 9) → (0 ≤ v17_p_m_askTied.toInt ∧ v17_p_m_askTied.toInt ≤ 4095) → (TYm ad cy fr0 c_text m_taped m_size m_faultKind m_faultPlace m_at m_end m_token m_number m_name c_points c_strands c_units c_told c_ruleFrom c_ruleTo c_code c_eWhat c_eSign m_bank m_rb m_codes m_within m_piled m_unitsInRule v17_p_m_askStrand v17_p_m_askTied m_thoughtClaim m_thoughtNeed m_thoughtAll v17_p_c_roundOf m_acts m_undone m_laid m_firstMove m_seens m_time m_waysNow m_fitting f) → (va_P D vwCl (wl ad f) H) → (va_D A (wl ad f)) → (va_S A s.heap H locs) → (lv_has ls 4 [(3, .int v17_l3), (2, .int v17_l2), (0, .ref (ad 148)), (1, .int p1)]) → W p l e (rmO 8 181 0 0) s m ([.ref (ad 148), .int p1] : List Value).toArray below meth c H locs 0 0 (MQ below (va_Qi (fun (r : Int32) (g : Nat → va_E) => (-1 ≤ r.toInt ∧ r.toInt ≤ 4095) ∧ (∃ (m_askStrand' : Int32) (m_askTied' : Int32) (c_roundOf' : Nat → Int32), TYm ad cy fr0 c_text m_taped m_size m_faultKind m_faultPlace m_at m_end m_token m_number m_name c_points c_strands c_units c_told c_ruleFrom c_ruleTo c_code c_eWhat c_eSign m_bank m_rb m_codes m_within m_piled m_unitsInRule m_askStrand' m_askTied' m_thoughtClaim m_thoughtNeed m_thoughtAll c_roundOf' m_acts m_undone m_laid m_firstMove m_seens m_time m_waysNow m_fitting g ∧ (0 ≤ m_askTied'.toInt ∧ m_askTied'.toInt ≤ 4095))) (fun g t => PstT D ad g t) A) ([.ref (ad 148), .int p1] : List Value).toArray s 0 0 A) (F0 m 17 ls []) := by
    intro N
    induction N with
    | zero => intro f H locs ls v17_l3 v17_l2 v17_p_m_askStrand v17_p_m_askTied v17_p_c_roundOf hN hv17_l3 hv17_l2 hv17_l1 hv17_p_m_askTied hT hP hD hS hl; exact absurd hN (by omega)
    | succ N ih17 =>
      intro f H locs ls v17_l3 v17_l2 v17_p_m_askStrand v17_p_m_askTied v17_p_c_roundOf hN hv17_l3 hv17_l2 hv17_l1 hv17_p_m_askTied hT hP hD hS hl
      have j59 : ∀ (f : Nat → va_E) (H : Heap) (locs : List Loc) (ls : Array Slot) (v59_l2 : Int32) (v59_p_m_askStrand : Int32) (v59_p_m_askTied : Int32) (v59_p_c_roundOf : Nat → Int32), (0 ≤ v17_l3.toInt ∧ v17_l3.toInt ≤ 4095) → (-1 ≤ v59_l2.toInt ∧ v59_l2.toInt ≤ 4095) → (0 ≤ p1.toInt ∧ p1.toInt ≤ 9) → (0 ≤ v59_p_m_askTied.toInt ∧ v59_p_m_askTied.toInt ≤ 4095) → (TYm ad cy fr0 c_text m_taped m_size m_faultKind m_faultPlace m_at m_end m_token m_number m_name c_points c_strands c_units c_told c_ruleFrom c_ruleTo c_code c_eWhat c_eSign m_bank m_rb m_codes m_within m_piled m_unitsInRule v59_p_m_askStrand v59_p_m_askTied m_thoughtClaim m_thoughtNeed m_thoughtAll v59_p_c_roundOf m_acts m_undone m_laid m_firstMove m_seens m_time m_waysNow m_fitting f) → (va_P D vwCl (wl ad f) H) → (va_D A (wl ad f)) → (va_S A s.heap H locs) → (lv_has ls 4 [(3, .int v17_l3), (2, .int v59_l2), (0, .ref (ad 148)), (1, .int p1)]) → W p l e (rmO 8 181 0 0) s m ([.ref (ad 148), .int p1] : List Value).toArray below meth c H locs 0 0 (MQ below (va_Qi (fun (r : Int32) (g : Nat → va_E) => (-1 ≤ r.toInt ∧ r.toInt ≤ 4095) ∧ (∃ (m_askStrand' : Int32) (m_askTied' : Int32) (c_roundOf' : Nat → Int32), TYm ad cy fr0 c_text m_taped m_size m_faultKind m_faultPlace m_at m_end m_token m_number m_name c_points c_strands c_units c_told c_ruleFrom c_ruleTo c_code c_eWhat c_eSign m_bank m_rb m_codes m_within m_piled m_unitsInRule m_askStrand' m_askTied' m_thoughtClaim m_thoughtNeed m_thoughtAll c_roundOf' m_acts m_undone m_laid m_firstMove m_seens m_time m_waysNow m_fitting g ∧ (0 ≤ m_askTied'.toInt ∧ m_askTied'.toInt ≤ 4095))) (fun g t => PstT D ad g t) A) ([.ref (ad 148), .int p1] : List Value).toArray s 0 0 A) (F0 m 59 ls []) := by
        intro f H locs ls v59_l2 v59_p_m_askStrand v59_p_m_askTied v59_p_c_roundOf hv59_l3 hv59_l2 hv59_l1 hv59_p_m_askTied hT hP hD hS hl
        obtain ⟨x1, ex1⟩ : ∃ q : Int32, q = v17_l3 + Int32.ofInt (1) := ⟨_, rfl⟩
        refine lv_iinc (v := x1) (lv' := [(3, .int x1), (2, .int v59_l2), (0, .ref (ad 148)), (1, .int p1)]) hx hb dX9_propOf_59 hl (k := 0) rfl ex1.symm (by decide) rfl (fun ls hl => ?_)
        have hx1 := r_inc ex1 (by decide) (by omega) (by omega)
        refine lv_goto (tgt := 17) hx hb dX9_propOf_62 (by decide) ?_
        exact ih17 f H locs ls x1 v59_l2 v59_p_m_askStrand v59_p_m_askTied v59_p_c_roundOf (by omega) (by omega) (by omega) (by omega) (by omega) hT hP hD hS (lv_sub hl [0, 1, 2, 3] rfl)
      refine lv_iload_n hx hb dX9_propOf_17 rfl (lv_at hl 0 rfl) ?_
      refine lv_aload_n hx hb dX9_propOf_18 rfl (lv_at hl 2 rfl) ?_
      obtain ⟨e17, h2, h3, h4, h5, h6, h7, h8, h9, h10, h11, h12, h13, h14, h15, h16⟩ := (show okX9 ad m_taped m_size m_faultKind m_faultPlace m_at m_end m_token m_number m_name m_bank m_rb m_codes m_within m_piled m_unitsInRule v17_p_m_askStrand v17_p_m_askTied m_thoughtClaim m_thoughtNeed m_thoughtAll m_acts m_undone m_laid m_firstMove m_seens m_time m_waysNow m_fitting 148 (f 148) from hT.1 148 (by decide))
      refine va_get (D := D) (cl := vwCl) (ci := 9) (v := .ref (ad 169)) (C := RX9) (T := TX9) (N := 64) hx hb hts in_X9_propOf_X9 hown hK hP 148 (wl_at (by decide) e17) rfl 37 (by decide) (hts (.fieldLink RX9 76 "EightReasonsModel" "all" "[I") (List.mem_of_getElem? (i := 1) rfl)) (fun _ h9 => h9) rfl dX9_propOf_19 ?_
      refine lv_iconst (v := 1) hx hb dX9_propOf_22 (by decide) ?_
      obtain ⟨g20, e18, h19⟩ := (show okIr cy 16 (0) (4095) 16 1 (f 169) from hT.1 169 (by decide))
      have ttl_1 := tl_1
      refine va_iald hx hb hK hP 169 0 (wl_at (by decide) e18) rfl (vin (by decide)) dX9_propOf_23 ?_
      refine lv_topi (fun x21 ex21 => ?_)
      have hx21 := r_el (h19 _ (by decide)) ex21
      refine lv_icmp_gt (tgt := 65) hx hb dX9_propOf_24 (by decide) (fun c22 => ?_) (fun c22 => ?_)
      · have kc22 := c_lt c22
        refine lv_iload_n hx hb dX9_propOf_65 rfl (lv_at hl 1 rfl) ?_
        exact tI hx hb hr hlk rfl hP hS ⟨(by omega), ⟨v17_p_m_askStrand, v17_p_m_askTied, v17_p_c_roundOf, hT, by omega⟩⟩ dX9_propOf_66
      · have kc22 := c_nlt c22
        refine lv_iload_n hx hb dX9_propOf_27 rfl (lv_at hl 0 rfl) ?_
        refine lv_aload_n hx hb dX9_propOf_28 rfl (lv_at hl 2 rfl) ?_
        refine va_get (D := D) (cl := vwCl) (ci := 9) (v := .ref (ad 169)) (C := RX9) (T := TX9) (N := 64) hx hb hts in_X9_propOf_X9 hown hK hP 148 (wl_at (by decide) e17) rfl 37 (by decide) (hts (.fieldLink RX9 76 "EightReasonsModel" "all" "[I") (List.mem_of_getElem? (i := 1) rfl)) (fun _ h9 => h9) rfl dX9_propOf_29 ?_
        refine lv_iconst (v := 1) hx hb dX9_propOf_32 (by decide) ?_
        refine va_iald hx hb hK hP 169 0 (wl_at (by decide) e18) rfl (vin (by decide)) dX9_propOf_33 ?_
        refine lv_topi (fun x23 ex23 => ?_)
        have hx23 := r_el (h19 _ (by decide)) ex23
        refine lv_iconst (v := (-1)) hx hb dX9_propOf_34 (by decide) ?_
        refine lv_ixor hx hb dX9_propOf_35 ?_
        refine lv_topi (fun x24 ex24 => ?_)
        refine lv_iand hx hb dX9_propOf_36 ?_
        refine lv_topi (fun x25 ex25 => ?_)
        have hx25 := r_andl ex25 (by omega)
        have ttl_0 := tl_0
        refine lv_if_ne (tgt := 59) hx hb dX9_propOf_37 (by decide) (fun c26 => ?_) (fun c26 => ?_)
        · have kc26 := c_ne c26
          exact j59 f H locs ls v17_l2 v17_p_m_askStrand v17_p_m_askTied v17_p_c_roundOf (by omega) (by omega) (by omega) (by omega) hT hP hD hS (lv_sub hl [0, 1, 2, 3] rfl)
        · have kc26 := c_eq c26
          refine lv_iload_n hx hb dX9_propOf_40 rfl (lv_at hl 0 rfl) ?_
          refine lv_iload_n hx hb dX9_propOf_41 rfl (lv_at hl 1 rfl) ?_
          refine tSI (As := [.int v17_l3, .int v17_l2]) (rest := []) ⟨hx, hb, hml, hown, hts⟩ hK hE hP hD hS hA hAB (s_X9_isLess_0 l B0 adK adV D cy ad f v17_l3 (by omega) v17_l2 (by omega) _) (va_cwS 2 hts gX9_propOf_X9_isLess rfl rfl rfl (by decide +kernel) ⟨Nat.le_of_ble_eq_true rfl, Nat.le_of_ble_eq_true rfl⟩) rfl hl.1 rfl (Nat.le_of_ble_eq_true rfl) dX9_propOf_42 ⟨Nat.le_of_ble_eq_true rfl, Nat.le_of_ble_eq_true rfl⟩ (fun r g H locs hw hP hD hS => ?_)
          obtain ⟨hrs, rfl⟩ := hw
          obtain ⟨x27, rfl⟩ : ∃ q, q = r := ⟨_, rfl⟩
          rcases hrs with rfl | rfl
          · refine lv_if_eq (tgt := 59) hx hb dX9_propOf_45 (by decide) (fun c => absurd c (by decide)) (fun _ => ?_)
            refine lv_aload_n hx hb dX9_propOf_48 rfl (lv_at hl 2 rfl) ?_
            refine lv_iload_n hx hb dX9_propOf_49 rfl (lv_at hl 3 rfl) ?_
            refine lv_iload_n hx hb dX9_propOf_50 rfl (lv_at hl 0 rfl) ?_
            refine tVI (As := [.int p1, .int v17_l3]) (rest := []) (i := 148) ⟨hx, hb, hml, hown, hts⟩ hK hE hP hD hS hA hAB (s_X9_doesStand_0 l B0 adK adV D cy ad fr0 c_text m_taped m_size m_faultKind m_faultPlace m_at m_end m_token m_number m_name c_points c_strands c_units c_told c_ruleFrom c_ruleTo c_code c_eWhat c_eSign m_bank m_rb m_codes m_within m_piled m_unitsInRule v17_p_m_askStrand v17_p_m_askTied m_thoughtClaim m_thoughtNeed m_thoughtAll v17_p_c_roundOf m_acts m_undone m_laid m_firstMove m_seens m_time m_waysNow m_fitting f hT p1 (by omega) v17_l3 (by omega) hCV _) (cwV 2 hts gX9_propOf_X9_doesStand rfl rfl rfl (by decide +kernel) ⟨Nat.le_of_ble_eq_true rfl, Nat.le_of_ble_eq_true rfl⟩) (by decide) 9 e17 rfl rfl hl.1 rfl (Nat.le_of_ble_eq_true rfl) dX9_propOf_51 ⟨Nat.le_of_ble_eq_true rfl, Nat.le_of_ble_eq_true rfl⟩ (fun r f H locs hw hP hD hS => ?_)
            obtain ⟨hrs, x28, x29, y30, hT, h31⟩ := hw
            obtain ⟨x32, rfl⟩ : ∃ q, q = r := ⟨_, rfl⟩
            rcases hrs with rfl | rfl
            · refine lv_if_eq (tgt := 59) hx hb dX9_propOf_54 (by decide) (fun c => absurd c (by decide)) (fun _ => ?_)
              refine lv_iload_n hx hb dX9_propOf_57 rfl (lv_at hl 0 rfl) ?_
              refine lv_istore_n (lv' := [(2, .int v17_l3), (3, .int v17_l3), (0, .ref (ad 148)), (1, .int p1)]) hx hb dX9_propOf_58 rfl hl (by decide) rfl (fun ls hl => ?_)
              exact j59 f H locs ls v17_l3 x28 x29 y30 (by omega) (by omega) (by omega) (by omega) hT hP hD hS (lv_sub hl [1, 0, 2, 3] rfl)
            · refine lv_if_eq (tgt := 59) hx hb dX9_propOf_54 (by decide) (fun _ => ?_) (fun c => absurd (by decide) c)
              exact j59 f H locs ls v17_l2 x28 x29 y30 (by omega) (by omega) (by omega) (by omega) hT hP hD hS (lv_sub hl [0, 1, 2, 3] rfl)
          · refine lv_if_eq (tgt := 59) hx hb dX9_propOf_45 (by decide) (fun _ => ?_) (fun c => absurd (by decide) c)
            exact j59 f H locs ls v17_l2 v17_p_m_askStrand v17_p_m_askTied v17_p_c_roundOf (by omega) (by omega) (by omega) (by omega) hT hP hD hS (lv_sub hl [0, 1, 2, 3] rfl)
  refine lv_aload_n hx hb dX9_propOf_0 rfl (lv_at hl 0 rfl) ?_
  obtain ⟨e48, h33, h34, h35, h36, h37, h38, h39, h40, h41, h42, h43, h44, h45, h46, h47⟩ := (show okX9 ad m_taped m_size m_faultKind m_faultPlace m_at m_end m_token m_number m_name m_bank m_rb m_codes m_within m_piled m_unitsInRule m_askStrand m_askTied m_thoughtClaim m_thoughtNeed m_thoughtAll m_acts m_undone m_laid m_firstMove m_seens m_time m_waysNow m_fitting 148 (f 148) from hT.1 148 (by decide))
  refine tVI (As := []) (rest := []) (i := 148) ⟨hx, hb, hml, hown, hts⟩ hK hE hP hD hS hA hAB (s_X9_standNow_0 l B0 adK adV D cy ad fr0 c_text m_taped m_size m_faultKind m_faultPlace m_at m_end m_token m_number m_name c_points c_strands c_units c_told c_ruleFrom c_ruleTo c_code c_eWhat c_eSign m_bank m_rb m_codes m_within m_piled m_unitsInRule m_askStrand m_askTied m_thoughtClaim m_thoughtNeed m_thoughtAll c_roundOf m_acts m_undone m_laid m_firstMove m_seens m_time m_waysNow m_fitting f hT hCV _) (cwV 0 hts gX9_propOf_X9_standNow rfl rfl rfl (by decide +kernel) ⟨Nat.le_of_ble_eq_true rfl, Nat.le_of_ble_eq_true rfl⟩) (by decide) 9 e48 rfl rfl hl.1 rfl (Nat.le_of_ble_eq_true rfl) dX9_propOf_1 ⟨Nat.le_of_ble_eq_true rfl, Nat.le_of_ble_eq_true rfl⟩ (fun r f H locs hw hP hD hS => ?_)
  obtain ⟨hrs, x49, x50, y51, hT, h52⟩ := hw
  obtain ⟨x53, rfl⟩ : ∃ q, q = r := ⟨_, rfl⟩
  have h54 := hrs
  refine lv_iload_n hx hb dX9_propOf_4 rfl (lv_at hl 1 rfl) ?_
  refine tSI (As := [.int x53, .int p1]) (rest := []) ⟨hx, hb, hml, hown, hts⟩ hK hE hP hD hS hA hAB (s_X9_bit_0 l B0 adK adV D cy ad f x53 p1 (by omega) _) (va_cwS 2 hts gX9_propOf_X9_bit rfl rfl rfl (by decide +kernel) ⟨Nat.le_of_ble_eq_true rfl, Nat.le_of_ble_eq_true rfl⟩) rfl hl.1 rfl (Nat.le_of_ble_eq_true rfl) dX9_propOf_5 ⟨Nat.le_of_ble_eq_true rfl, Nat.le_of_ble_eq_true rfl⟩ (fun r g H locs hw hP hD hS => ?_)
  obtain ⟨hrs, rfl⟩ := hw
  obtain ⟨x55, rfl⟩ : ∃ q, q = r := ⟨_, rfl⟩
  rcases hrs with ⟨rfl, h56⟩ | ⟨rfl, h57⟩
  · refine lv_if_ne (tgt := 13) hx hb dX9_propOf_8 (by decide) (fun _ => ?_) (fun c => absurd c (by decide))
    refine lv_iconst (v := (-1)) hx hb dX9_propOf_13 (by decide) ?_
    refine lv_istore_n (lv' := [(2, .int (-1)), (0, .ref (ad 148)), (1, .int p1)]) hx hb dX9_propOf_14 rfl hl (by decide) rfl (fun ls hl => ?_)
    refine lv_iconst (v := 0) hx hb dX9_propOf_15 (by decide) ?_
    refine lv_istore_n (lv' := [(3, .int 0), (2, .int (-1)), (0, .ref (ad 148)), (1, .int p1)]) hx hb dX9_propOf_16 rfl hl (by decide) rfl (fun ls hl => ?_)
    have ttl_0 := tl_0
    have ttl_m1 := tl_m1
    exact j17 (Int.toNat (4097 - (0 : Int32).toInt)) f H locs ls (0 : Int32) ((-1) : Int32) x49 x50 y51 (by omega) (by omega) (by omega) (by omega) (by omega) hT hP hD hS (lv_sub hl [0, 1, 2, 3] rfl)
  · refine lv_if_ne (tgt := 13) hx hb dX9_propOf_8 (by decide) (fun c => absurd (by decide) c) (fun _ => ?_)
    refine lv_iconst (v := (-1)) hx hb dX9_propOf_11 (by decide) ?_
    have ttl_m1 := tl_m1
    exact tI hx hb hr hlk rfl hP hS ⟨(by omega), ⟨x49, x50, y51, hT, by omega⟩⟩ dX9_propOf_12
set_option maxHeartbeats 4000000 in
set_option maxRecDepth 100000 in
theorem s_X9_prop_0 (l : Launch) (B0 : Nat) (adK adV : Nat → Nat) (D : va_G) (cy : Nat → ClassId) (ad : Nat → Nat) (fr0 : Nat → va_E) (c_text : Nat → Int32) (m_taped : Int32) (m_size : Int32) (m_faultKind : Int32) (m_faultPlace : Int32) (m_at : Int32) (m_end : Int32) (m_token : Int32) (m_number : Int32) (m_name : Int64) (c_points : Nat → Int32) (c_strands : Nat → Int32) (c_units : Nat → Int32) (c_told : Nat → Int32) (c_ruleFrom : Nat → Int32) (c_ruleTo : Nat → Int32) (c_code : Nat → Int32) (c_eWhat : Nat → Int32) (c_eSign : Nat → Int32) (m_bank : Int32) (m_rb : Int32) (m_codes : Int32) (m_within : Int32) (m_piled : Int32) (m_unitsInRule : Int32) (m_askStrand : Int32) (m_askTied : Int32) (m_thoughtClaim : Int32) (m_thoughtNeed : Int32) (m_thoughtAll : Int32) (c_roundOf : Nat → Int32) (m_acts : Int32) (m_undone : Int32) (m_laid : Int32) (m_firstMove : Int32) (m_seens : Int32) (m_time : Int32) (m_waysNow : Int32) (m_fitting : Int32) (f : Nat → va_E) (hT : TYm ad cy fr0 c_text m_taped m_size m_faultKind m_faultPlace m_at m_end m_token m_number m_name c_points c_strands c_units c_told c_ruleFrom c_ruleTo c_code c_eWhat c_eSign m_bank m_rb m_codes m_within m_piled m_unitsInRule m_askStrand m_askTied m_thoughtClaim m_thoughtNeed m_thoughtAll c_roundOf m_acts m_undone m_laid m_firstMove m_seens m_time m_waysNow m_fitting f) (p1 : Int32) (p2 : Int32) (hCV : CVp c_told c_ruleFrom c_ruleTo c_code m_bank) (sz : Nat) : TtI l yX9_prop wsX9_prop 9 204 [.ref (ad 148), .int p1, .int p2] B0 adK adV D cy ad f sz (fun (r : Int32) (g : Nat → va_E) => (-1 ≤ r.toInt ∧ r.toInt ≤ 4095) ∧ (∃ (m_askStrand' : Int32) (m_askTied' : Int32) (c_roundOf' : Nat → Int32), TYm ad cy fr0 c_text m_taped m_size m_faultKind m_faultPlace m_at m_end m_token m_number m_name c_points c_strands c_units c_told c_ruleFrom c_ruleTo c_code c_eWhat c_eSign m_bank m_rb m_codes m_within m_piled m_unitsInRule m_askStrand' m_askTied' m_thoughtClaim m_thoughtNeed m_thoughtAll c_roundOf' m_acts m_undone m_laid m_firstMove m_seens m_time m_waysNow m_fitting g)) := by
  refine TtI.of (cc := cX9_prop) (maxL := 3) (ty := .int) (own := RX9) (by decide) rfl (Nat.le_of_ble_eq_true rfl) rfl ?_
  intro p e s m below meth c A ls hx hb hr hml hts hown hlk hK hE hP hD hS hA hAB hl
  have hl : lv_has ls 3 [(0, .ref (ad 148)), (1, .int p1), (2, .int p2)] := hl
  refine st0 (fun H locs hP hS => ?_) hP hS
  refine lv_aload_n hx hb dX9_prop_0 rfl (lv_at hl 0 rfl) ?_
  refine lv_iload_n hx hb dX9_prop_1 rfl (lv_at hl 1 rfl) ?_
  obtain ⟨e16, h1, h2, h3, h4, h5, h6, h7, h8, h9, h10, h11, h12, h13, h14, h15⟩ := (show okX9 ad m_taped m_size m_faultKind m_faultPlace m_at m_end m_token m_number m_name m_bank m_rb m_codes m_within m_piled m_unitsInRule m_askStrand m_askTied m_thoughtClaim m_thoughtNeed m_thoughtAll m_acts m_undone m_laid m_firstMove m_seens m_time m_waysNow m_fitting 148 (f 148) from hT.1 148 (by decide))
  refine tVI (As := [.int p1]) (rest := []) (i := 148) ⟨hx, hb, hml, hown, hts⟩ hK hE hP hD hS hA hAB (s_X9_isClaim_0 l B0 adK adV D cy ad fr0 c_text m_taped m_size m_faultKind m_faultPlace m_at m_end m_token m_number m_name c_points c_strands c_units c_told c_ruleFrom c_ruleTo c_code c_eWhat c_eSign m_bank m_rb m_codes m_within m_piled m_unitsInRule m_askStrand m_askTied m_thoughtClaim m_thoughtNeed m_thoughtAll c_roundOf m_acts m_undone m_laid m_firstMove m_seens m_time m_waysNow m_fitting f hT p1 _) (cwV 1 hts gX9_prop_X9_isClaim rfl rfl rfl (by decide +kernel) ⟨Nat.le_of_ble_eq_true rfl, Nat.le_of_ble_eq_true rfl⟩) (by decide) 9 e16 rfl rfl hl.1 rfl (Nat.le_of_ble_eq_true rfl) dX9_prop_2 ⟨Nat.le_of_ble_eq_true rfl, Nat.le_of_ble_eq_true rfl⟩ (fun r g H locs hw hP hD hS => ?_)
  obtain ⟨hrs, rfl⟩ := hw
  obtain ⟨x17, rfl⟩ : ∃ q, q = r := ⟨_, rfl⟩
  rcases hrs with ⟨rfl, h18, h19⟩ | rfl
  · refine lv_if_eq (tgt := 29) hx hb dX9_prop_5 (by decide) (fun c => absurd c (by decide)) (fun _ => ?_)
    refine lv_iload_n hx hb dX9_prop_8 rfl (lv_at hl 2 rfl) ?_
    refine lv_iconst (v := 0) hx hb dX9_prop_9 (by decide) ?_
    refine lv_iconst (v := 1) hx hb dX9_prop_10 (by decide) ?_
    have ttl_0 := tl_0
    have ttl_1 := tl_1
    refine tSI (As := [.int p2, .int 0, .int 1]) (rest := []) ⟨hx, hb, hml, hown, hts⟩ hK hE hP hD hS hA hAB (s_X9_isIn_0 l B0 adK adV D cy ad f p2 (0 : Int32) (by omega) (1 : Int32) (by omega) _) (va_cwS 3 hts gX9_prop_X9_isIn rfl rfl rfl (by decide +kernel) ⟨Nat.le_of_ble_eq_true rfl, Nat.le_of_ble_eq_true rfl⟩) rfl hl.1 rfl (Nat.le_of_ble_eq_true rfl) dX9_prop_11 ⟨Nat.le_of_ble_eq_true rfl, Nat.le_of_ble_eq_true rfl⟩ (fun r g H locs hw hP hD hS => ?_)
    obtain ⟨hrs, rfl⟩ := hw
    obtain ⟨x20, rfl⟩ : ∃ q, q = r := ⟨_, rfl⟩
    rcases hrs with ⟨rfl, h21, h22⟩ | rfl
    · refine lv_if_eq (tgt := 29) hx hb dX9_prop_14 (by decide) (fun c => absurd c (by decide)) (fun _ => ?_)
      refine lv_aload_n hx hb dX9_prop_17 rfl (lv_at hl 0 rfl) ?_
      refine lv_iload_n hx hb dX9_prop_18 rfl (lv_at hl 1 rfl) ?_
      refine tVI (As := [.int p1]) (rest := []) (i := 148) ⟨hx, hb, hml, hown, hts⟩ hK hE hP hD hS hA hAB (s_X9_propOf_0 l B0 adK adV D cy ad fr0 c_text m_taped m_size m_faultKind m_faultPlace m_at m_end m_token m_number m_name c_points c_strands c_units c_told c_ruleFrom c_ruleTo c_code c_eWhat c_eSign m_bank m_rb m_codes m_within m_piled m_unitsInRule m_askStrand m_askTied m_thoughtClaim m_thoughtNeed m_thoughtAll c_roundOf m_acts m_undone m_laid m_firstMove m_seens m_time m_waysNow m_fitting f hT p1 (by omega) hCV _) (cwV 1 hts gX9_prop_X9_propOf rfl rfl rfl (by decide +kernel) ⟨Nat.le_of_ble_eq_true rfl, Nat.le_of_ble_eq_true rfl⟩) (by decide) 9 e16 rfl rfl hl.1 rfl (Nat.le_of_ble_eq_true rfl) dX9_prop_19 ⟨Nat.le_of_ble_eq_true rfl, Nat.le_of_ble_eq_true rfl⟩ (fun r f H locs hw hP hD hS => ?_)
      obtain ⟨hrs, x23, x24, y25, hT, h26⟩ := hw
      obtain ⟨x27, rfl⟩ : ∃ q, q = r := ⟨_, rfl⟩
      have h28 := hrs
      refine lv_iload_n hx hb dX9_prop_22 rfl (lv_at hl 2 rfl) ?_
      refine tSI (As := [.int x27, .int p2]) (rest := []) ⟨hx, hb, hml, hown, hts⟩ hK hE hP hD hS hA hAB (s_X9_toldOf_0 l B0 adK adV D cy ad f x27 (by omega) p2 (by omega) _) (va_cwS 2 hts gX9_prop_X9_toldOf rfl rfl rfl (by decide +kernel) ⟨Nat.le_of_ble_eq_true rfl, Nat.le_of_ble_eq_true rfl⟩) rfl hl.1 rfl (Nat.le_of_ble_eq_true rfl) dX9_prop_23 ⟨Nat.le_of_ble_eq_true rfl, Nat.le_of_ble_eq_true rfl⟩ (fun r g H locs hw hP hD hS => ?_)
      obtain ⟨hrs, rfl⟩ := hw
      obtain ⟨x29, rfl⟩ : ∃ q, q = r := ⟨_, rfl⟩
      have h30 := hrs
      refine lv_goto (tgt := 30) hx hb dX9_prop_26 (by decide) ?_
      exact tI hx hb hr hlk rfl hP hS ⟨(by omega), ⟨x23, x24, y25, hT⟩⟩ dX9_prop_30
    · refine lv_if_eq (tgt := 29) hx hb dX9_prop_14 (by decide) (fun _ => ?_) (fun c => absurd (by decide) c)
      refine lv_iconst (v := (-1)) hx hb dX9_prop_29 (by decide) ?_
      have ttl_m1 := tl_m1
      exact tI hx hb hr hlk rfl hP hS ⟨(by omega), ⟨m_askStrand, m_askTied, c_roundOf, hT⟩⟩ dX9_prop_30
  · refine lv_if_eq (tgt := 29) hx hb dX9_prop_5 (by decide) (fun _ => ?_) (fun c => absurd (by decide) c)
    refine lv_iconst (v := (-1)) hx hb dX9_prop_29 (by decide) ?_
    have ttl_m1 := tl_m1
    exact tI hx hb hr hlk rfl hP hS ⟨(by omega), ⟨m_askStrand, m_askTied, c_roundOf, hT⟩⟩ dX9_prop_30
set_option maxHeartbeats 4000000 in
set_option maxRecDepth 100000 in
theorem s_X9_pivots_0 (l : Launch) (B0 : Nat) (adK adV : Nat → Nat) (D : va_G) (cy : Nat → ClassId) (ad : Nat → Nat) (fr0 : Nat → va_E) (c_text : Nat → Int32) (m_taped : Int32) (m_size : Int32) (m_faultKind : Int32) (m_faultPlace : Int32) (m_at : Int32) (m_end : Int32) (m_token : Int32) (m_number : Int32) (m_name : Int64) (c_points : Nat → Int32) (c_strands : Nat → Int32) (c_units : Nat → Int32) (c_told : Nat → Int32) (c_ruleFrom : Nat → Int32) (c_ruleTo : Nat → Int32) (c_code : Nat → Int32) (c_eWhat : Nat → Int32) (c_eSign : Nat → Int32) (m_bank : Int32) (m_rb : Int32) (m_codes : Int32) (m_within : Int32) (m_piled : Int32) (m_unitsInRule : Int32) (m_askStrand : Int32) (m_askTied : Int32) (m_thoughtClaim : Int32) (m_thoughtNeed : Int32) (m_thoughtAll : Int32) (c_roundOf : Nat → Int32) (m_acts : Int32) (m_undone : Int32) (m_laid : Int32) (m_firstMove : Int32) (m_seens : Int32) (m_time : Int32) (m_waysNow : Int32) (m_fitting : Int32) (f : Nat → va_E) (hT : TYm ad cy fr0 c_text m_taped m_size m_faultKind m_faultPlace m_at m_end m_token m_number m_name c_points c_strands c_units c_told c_ruleFrom c_ruleTo c_code c_eWhat c_eSign m_bank m_rb m_codes m_within m_piled m_unitsInRule m_askStrand m_askTied m_thoughtClaim m_thoughtNeed m_thoughtAll c_roundOf m_acts m_undone m_laid m_firstMove m_seens m_time m_waysNow m_fitting f) (p1 : Int32) (hCV : CVp c_told c_ruleFrom c_ruleTo c_code m_bank) (sz : Nat) : TtI l yX9_pivots wsX9_pivots 8 181 [.ref (ad 148), .int p1] B0 adK adV D cy ad f sz (fun (r : Int32) (g : Nat → va_E) => (-1 ≤ r.toInt ∧ r.toInt ≤ 4095) ∧ (∃ (m_askStrand' : Int32) (m_askTied' : Int32) (c_roundOf' : Nat → Int32), TYm ad cy fr0 c_text m_taped m_size m_faultKind m_faultPlace m_at m_end m_token m_number m_name c_points c_strands c_units c_told c_ruleFrom c_ruleTo c_code c_eWhat c_eSign m_bank m_rb m_codes m_within m_piled m_unitsInRule m_askStrand' m_askTied' m_thoughtClaim m_thoughtNeed m_thoughtAll c_roundOf' m_acts m_undone m_laid m_firstMove m_seens m_time m_waysNow m_fitting g)) := by
  refine TtI.of (cc := cX9_pivots) (maxL := 5) (ty := .int) (own := RX9) (by decide) rfl (Nat.le_of_ble_eq_true rfl) rfl ?_
  intro p e s m below meth c A ls hx hb hr hml hts hown hlk hK hE hP hD hS hA hAB hl
  have hl : lv_has ls 5 [(0, .ref (ad 148)), (1, .int p1)] := hl
  refine st0 (fun H locs hP hS => ?_) hP hS
  have j24 : ∀ (N : Nat) (f : Nat → va_E) (H : Heap) (locs : List Loc) (ls : Array Slot) (v24_l4 : Int32) (v24_l3 : Int32) (v24_l2 : Int32) (v24_p_m_askStrand : Int32) (v24_p_m_askTied : Int32) (v24_p_c_roundOf : Nat → Int32), (13 - v24_l4.toInt ≤ (N : Int)) → (0 ≤ v24_l4.toInt ∧ v24_l4.toInt ≤ 12) → (0 ≤ v24_l3.toInt ∧ v24_l3.toInt ≤ 1) → (0 ≤ v24_l2.toInt ∧ v24_l2.toInt ≤ 4095) → (0 ≤ p1.toInt ∧ p1.toInt ≤ 9) → (0 ≤ v24_p_m_askTied.toInt ∧ v24_p_m_askTied.toInt ≤ 4095) → (TYm ad cy fr0 c_text m_taped m_size m_faultKind m_faultPlace m_at m_end m_token m_number m_name c_points c_strands c_units c_told c_ruleFrom c_ruleTo c_code c_eWhat c_eSign m_bank m_rb m_codes m_within m_piled m_unitsInRule v24_p_m_askStrand v24_p_m_askTied m_thoughtClaim m_thoughtNeed m_thoughtAll v24_p_c_roundOf m_acts m_undone m_laid m_firstMove m_seens m_time m_waysNow m_fitting f) → (va_P D vwCl (wl ad f) H) → (va_D A (wl ad f)) → (va_S A s.heap H locs) → (lv_has ls 5 [(4, .int v24_l4), (3, .int v24_l3), (2, .int v24_l2), (0, .ref (ad 148)), (1, .int p1)]) → W p l e (rmO 8 181 0 0) s m ([.ref (ad 148), .int p1] : List Value).toArray below meth c H locs 0 0 (MQ below (va_Qi (fun (r : Int32) (g : Nat → va_E) => (-1 ≤ r.toInt ∧ r.toInt ≤ 4095) ∧ (∃ (m_askStrand' : Int32) (m_askTied' : Int32) (c_roundOf' : Nat → Int32), TYm ad cy fr0 c_text m_taped m_size m_faultKind m_faultPlace m_at m_end m_token m_number m_name c_points c_strands c_units c_told c_ruleFrom c_ruleTo c_code c_eWhat c_eSign m_bank m_rb m_codes m_within m_piled m_unitsInRule m_askStrand' m_askTied' m_thoughtClaim m_thoughtNeed m_thoughtAll c_roundOf' m_acts m_undone m_laid m_firstMove m_seens m_time m_waysNow m_fitting g)) (fun g t => PstT D ad g t) A) ([.ref (ad 148), .int p1] : List Value).toArray s 0 0 A) (F0 m 24 ls []) := by
    intro N
    induction N with
    | zero => intro f H locs ls v24_l4 v24_l3 v24_l2 v24_p_m_askStrand v24_p_m_askTied v24_p_c_roundOf hN hv24_l4 hv24_l3 hv24_l2 hv24_l1 hv24_p_m_askTied hT hP hD hS hl; exact absurd hN (by omega)
    | succ N ih24 =>
      intro f H locs ls v24_l4 v24_l3 v24_l2 v24_p_m_askStrand v24_p_m_askTied v24_p_c_roundOf hN hv24_l4 hv24_l3 hv24_l2 hv24_l1 hv24_p_m_askTied hT hP hD hS hl
      have j79 : ∀ (f : Nat → va_E) (H : Heap) (locs : List Loc) (ls : Array Slot) (v79_l2 : Int32) (v79_p_m_askStrand : Int32) (v79_p_m_askTied : Int32) (v79_p_c_roundOf : Nat → Int32), (0 ≤ v24_l4.toInt ∧ v24_l4.toInt ≤ 11) → (0 ≤ v24_l3.toInt ∧ v24_l3.toInt ≤ 1) → (0 ≤ v79_l2.toInt ∧ v79_l2.toInt ≤ 4095) → (0 ≤ p1.toInt ∧ p1.toInt ≤ 9) → (0 ≤ v79_p_m_askTied.toInt ∧ v79_p_m_askTied.toInt ≤ 4095) → (TYm ad cy fr0 c_text m_taped m_size m_faultKind m_faultPlace m_at m_end m_token m_number m_name c_points c_strands c_units c_told c_ruleFrom c_ruleTo c_code c_eWhat c_eSign m_bank m_rb m_codes m_within m_piled m_unitsInRule v79_p_m_askStrand v79_p_m_askTied m_thoughtClaim m_thoughtNeed m_thoughtAll v79_p_c_roundOf m_acts m_undone m_laid m_firstMove m_seens m_time m_waysNow m_fitting f) → (va_P D vwCl (wl ad f) H) → (va_D A (wl ad f)) → (va_S A s.heap H locs) → (lv_has ls 5 [(4, .int v24_l4), (3, .int v24_l3), (2, .int v79_l2), (0, .ref (ad 148)), (1, .int p1)]) → W p l e (rmO 8 181 0 0) s m ([.ref (ad 148), .int p1] : List Value).toArray below meth c H locs 0 0 (MQ below (va_Qi (fun (r : Int32) (g : Nat → va_E) => (-1 ≤ r.toInt ∧ r.toInt ≤ 4095) ∧ (∃ (m_askStrand' : Int32) (m_askTied' : Int32) (c_roundOf' : Nat → Int32), TYm ad cy fr0 c_text m_taped m_size m_faultKind m_faultPlace m_at m_end m_token m_number m_name c_points c_strands c_units c_told c_ruleFrom c_ruleTo c_code c_eWhat c_eSign m_bank m_rb m_codes m_within m_piled m_unitsInRule m_askStrand' m_askTied' m_thoughtClaim m_thoughtNeed m_thoughtAll c_roundOf' m_acts m_undone m_laid m_firstMove m_seens m_time m_waysNow m_fitting g)) (fun g t => PstT D ad g t) A) ([.ref (ad 148), .int p1] : List Value).toArray s 0 0 A) (F0 m 79 ls []) := by
        intro f H locs ls v79_l2 v79_p_m_askStrand v79_p_m_askTied v79_p_c_roundOf hv79_l4 hv79_l3 hv79_l2 hv79_l1 hv79_p_m_askTied hT hP hD hS hl
        obtain ⟨x1, ex1⟩ : ∃ q : Int32, q = v24_l4 + Int32.ofInt (1) := ⟨_, rfl⟩
        refine lv_iinc (v := x1) (lv' := [(4, .int x1), (3, .int v24_l3), (2, .int v79_l2), (0, .ref (ad 148)), (1, .int p1)]) hx hb dX9_pivots_79 hl (k := 0) rfl ex1.symm (by decide) rfl (fun ls hl => ?_)
        have hx1 := r_inc ex1 (by decide) (by omega) (by omega)
        refine lv_goto (tgt := 24) hx hb dX9_pivots_82 (by decide) ?_
        exact ih24 f H locs ls x1 v24_l3 v79_l2 v79_p_m_askStrand v79_p_m_askTied v79_p_c_roundOf (by omega) (by omega) (by omega) (by omega) (by omega) (by omega) hT hP hD hS (lv_sub hl [0, 1, 2, 3, 4] rfl)
      refine lv_iload hx hb dX9_pivots_24 (lv_at hl 0 rfl) ?_
      refine lv_aload_n hx hb dX9_pivots_26 rfl (lv_at hl 3 rfl) ?_
      obtain ⟨e17, h2, h3, h4, h5, h6, h7, h8, h9, h10, h11, h12, h13, h14, h15, h16⟩ := (show okX9 ad m_taped m_size m_faultKind m_faultPlace m_at m_end m_token m_number m_name m_bank m_rb m_codes m_within m_piled m_unitsInRule v24_p_m_askStrand v24_p_m_askTied m_thoughtClaim m_thoughtNeed m_thoughtAll m_acts m_undone m_laid m_firstMove m_seens m_time m_waysNow m_fitting 148 (f 148) from hT.1 148 (by decide))
      refine tVI (As := []) (rest := [.int v24_l4]) (i := 148) ⟨hx, hb, hml, hown, hts⟩ hK hE hP hD hS hA hAB (s_X9_threads_0 l B0 adK adV D cy ad fr0 c_text m_taped m_size m_faultKind m_faultPlace m_at m_end m_token m_number m_name c_points c_strands c_units c_told c_ruleFrom c_ruleTo c_code c_eWhat c_eSign m_bank m_rb m_codes m_within m_piled m_unitsInRule v24_p_m_askStrand v24_p_m_askTied m_thoughtClaim m_thoughtNeed m_thoughtAll v24_p_c_roundOf m_acts m_undone m_laid m_firstMove m_seens m_time m_waysNow m_fitting f hT _) (cwV 0 hts gX9_pivots_X9_threads rfl rfl rfl (by decide +kernel) ⟨Nat.le_of_ble_eq_true rfl, Nat.le_of_ble_eq_true rfl⟩) (by decide) 9 e17 rfl rfl hl.1 rfl (Nat.le_of_ble_eq_true rfl) dX9_pivots_27 ⟨Nat.le_of_ble_eq_true rfl, Nat.le_of_ble_eq_true rfl⟩ (fun r g H locs hw hP hD hS => ?_)
      obtain ⟨hrs, rfl⟩ := hw
      obtain ⟨x18, rfl⟩ : ∃ q, q = r := ⟨_, rfl⟩
      have h19 := hrs
      refine lv_icmp_ge (tgt := 85) hx hb dX9_pivots_30 (by decide) (fun c20 => ?_) (fun c20 => ?_)
      · have kc20 := c_le c20
        refine lv_iload_n hx hb dX9_pivots_85 rfl (lv_at hl 2 rfl) ?_
        exact tI hx hb hr hlk rfl hP hS ⟨(by omega), ⟨v24_p_m_askStrand, v24_p_m_askTied, v24_p_c_roundOf, hT⟩⟩ dX9_pivots_86
      · have kc20 := c_nle c20
        refine lv_iload_n hx hb dX9_pivots_33 rfl (lv_at hl 1 rfl) ?_
        have ttl_0 := tl_0
        refine lv_if_eq (tgt := 79) hx hb dX9_pivots_34 (by decide) (fun c21 => ?_) (fun c21 => ?_)
        · have kc21 := c_eq c21
          exact j79 f H locs ls v24_l2 v24_p_m_askStrand v24_p_m_askTied v24_p_c_roundOf (by omega) (by omega) (by omega) (by omega) (by omega) hT hP hD hS (lv_sub hl [0, 1, 2, 3, 4] rfl)
        · have kc21 := c_ne c21
          refine lv_aload_n hx hb dX9_pivots_37 rfl (lv_at hl 3 rfl) ?_
          refine va_get (D := D) (cl := vwCl) (ci := 9) (v := .ref (ad 169)) (C := RX9) (T := TX9) (N := 64) hx hb hts in_X9_pivots_X9 hown hK hP 148 (wl_at (by decide) e17) rfl 37 (by decide) (hts (.fieldLink RX9 76 "EightReasonsModel" "all" "[I") (List.mem_of_getElem? (i := 1) rfl)) (fun _ h9 => h9) rfl dX9_pivots_38 ?_
          refine lv_iconst (v := 1) hx hb dX9_pivots_41 (by decide) ?_
          obtain ⟨g24, e22, h23⟩ := (show okIr cy 16 (0) (4095) 16 1 (f 169) from hT.1 169 (by decide))
          have ttl_1 := tl_1
          refine va_iald hx hb hK hP 169 0 (wl_at (by decide) e22) rfl (vin (by decide)) dX9_pivots_42 ?_
          refine lv_topi (fun x25 ex25 => ?_)
          have hx25 := r_el (h23 _ (by decide)) ex25
          refine lv_iload hx hb dX9_pivots_43 (lv_at hl 0 rfl) ?_
          refine tSI (As := [.int x25, .int v24_l4]) (rest := []) ⟨hx, hb, hml, hown, hts⟩ hK hE hP hD hS hA hAB (s_X9_bit_0 l B0 adK adV D cy ad f x25 v24_l4 (by omega) _) (va_cwS 2 hts gX9_pivots_X9_bit rfl rfl rfl (by decide +kernel) ⟨Nat.le_of_ble_eq_true rfl, Nat.le_of_ble_eq_true rfl⟩) rfl hl.1 rfl (Nat.le_of_ble_eq_true rfl) dX9_pivots_45 ⟨Nat.le_of_ble_eq_true rfl, Nat.le_of_ble_eq_true rfl⟩ (fun r g H locs hw hP hD hS => ?_)
          obtain ⟨hrs, rfl⟩ := hw
          obtain ⟨x26, rfl⟩ : ∃ q, q = r := ⟨_, rfl⟩
          rcases hrs with ⟨rfl, h27⟩ | ⟨rfl, h28⟩
          · refine lv_if_eq (tgt := 79) hx hb dX9_pivots_48 (by decide) (fun c => absurd c (by decide)) (fun _ => ?_)
            refine lv_aload_n hx hb dX9_pivots_51 rfl (lv_at hl 3 rfl) ?_
            refine lv_iload_n hx hb dX9_pivots_52 rfl (lv_at hl 4 rfl) ?_
            refine lv_aload_n hx hb dX9_pivots_53 rfl (lv_at hl 3 rfl) ?_
            refine va_get (D := D) (cl := vwCl) (ci := 9) (v := .ref (ad 169)) (C := RX9) (T := TX9) (N := 64) hx hb hts in_X9_pivots_X9 hown hK hP 148 (wl_at (by decide) e17) rfl 37 (by decide) (hts (.fieldLink RX9 76 "EightReasonsModel" "all" "[I") (List.mem_of_getElem? (i := 1) rfl)) (fun _ h9 => h9) rfl dX9_pivots_54 ?_
            refine lv_iconst (v := 1) hx hb dX9_pivots_57 (by decide) ?_
            refine va_iald hx hb hK hP 169 0 (wl_at (by decide) e22) rfl (vin (by decide)) dX9_pivots_58 ?_
            refine lv_topi (fun x29 ex29 => ?_)
            have hx29 := r_el (h23 _ (by decide)) ex29
            refine lv_iconst (v := 1) hx hb dX9_pivots_59 (by decide) ?_
            refine lv_iload hx hb dX9_pivots_60 (lv_at hl 0 rfl) ?_
            refine lv_ishl hx hb dX9_pivots_62 ?_
            refine lv_topi (fun x30 ex30 => ?_)
            have hx30 := r_shl (K := 11) (M := 2048) ex30 (by decide) (by decide) (by omega) (by omega)
            refine lv_iconst (v := (-1)) hx hb dX9_pivots_63 (by decide) ?_
            refine lv_ixor hx hb dX9_pivots_64 ?_
            refine lv_topi (fun x31 ex31 => ?_)
            refine lv_iand hx hb dX9_pivots_65 ?_
            refine lv_topi (fun x32 ex32 => ?_)
            have hx32 := r_andl ex32 (by omega)
            refine tVI (As := [.int p1, .int x32]) (rest := []) (i := 148) ⟨hx, hb, hml, hown, hts⟩ hK hE hP hD hS hA hAB (s_X9_doesStand_0 l B0 adK adV D cy ad fr0 c_text m_taped m_size m_faultKind m_faultPlace m_at m_end m_token m_number m_name c_points c_strands c_units c_told c_ruleFrom c_ruleTo c_code c_eWhat c_eSign m_bank m_rb m_codes m_within m_piled m_unitsInRule v24_p_m_askStrand v24_p_m_askTied m_thoughtClaim m_thoughtNeed m_thoughtAll v24_p_c_roundOf m_acts m_undone m_laid m_firstMove m_seens m_time m_waysNow m_fitting f hT p1 (by omega) x32 (by omega) hCV _) (cwV 2 hts gX9_pivots_X9_doesStand rfl rfl rfl (by decide +kernel) ⟨Nat.le_of_ble_eq_true rfl, Nat.le_of_ble_eq_true rfl⟩) (by decide) 9 e17 rfl rfl hl.1 rfl (Nat.le_of_ble_eq_true rfl) dX9_pivots_66 ⟨Nat.le_of_ble_eq_true rfl, Nat.le_of_ble_eq_true rfl⟩ (fun r f H locs hw hP hD hS => ?_)
            obtain ⟨hrs, x33, x34, y35, hT, h36⟩ := hw
            obtain ⟨x37, rfl⟩ : ∃ q, q = r := ⟨_, rfl⟩
            rcases hrs with rfl | rfl
            · refine lv_if_ne (tgt := 79) hx hb dX9_pivots_69 (by decide) (fun _ => ?_) (fun c => absurd c (by decide))
              exact j79 f H locs ls v24_l2 x33 x34 y35 (by omega) (by omega) (by omega) (by omega) (by omega) hT hP hD hS (lv_sub hl [0, 1, 2, 3, 4] rfl)
            · refine lv_if_ne (tgt := 79) hx hb dX9_pivots_69 (by decide) (fun c => absurd (by decide) c) (fun _ => ?_)
              refine lv_iload_n hx hb dX9_pivots_72 rfl (lv_at hl 2 rfl) ?_
              refine lv_iconst (v := 1) hx hb dX9_pivots_73 (by decide) ?_
              refine lv_iload hx hb dX9_pivots_74 (lv_at hl 0 rfl) ?_
              refine lv_ishl hx hb dX9_pivots_76 ?_
              refine lv_topi (fun x38 ex38 => ?_)
              have hx38 := r_shl (K := 11) (M := 2048) ex38 (by decide) (by decide) (by omega) (by omega)
              refine lv_ior hx hb dX9_pivots_77 ?_
              refine lv_topi (fun x39 ex39 => ?_)
              have hx39 := r_or (k := 12) (K := 4096) ex39 (by decide) (by decide) (by omega) (by omega) (by omega) (by omega)
              refine lv_istore_n (lv' := [(2, .int x39), (4, .int v24_l4), (3, .int v24_l3), (0, .ref (ad 148)), (1, .int p1)]) hx hb dX9_pivots_78 rfl hl (by decide) rfl (fun ls hl => ?_)
              exact j79 f H locs ls x39 x33 x34 y35 (by omega) (by omega) (by omega) (by omega) (by omega) hT hP hD hS (lv_sub hl [1, 2, 0, 3, 4] rfl)
          · refine lv_if_eq (tgt := 79) hx hb dX9_pivots_48 (by decide) (fun _ => ?_) (fun c => absurd (by decide) c)
            exact j79 f H locs ls v24_l2 v24_p_m_askStrand v24_p_m_askTied v24_p_c_roundOf (by omega) (by omega) (by omega) (by omega) (by omega) hT hP hD hS (lv_sub hl [0, 1, 2, 3, 4] rfl)
  refine lv_aload_n hx hb dX9_pivots_0 rfl (lv_at hl 0 rfl) ?_
  refine lv_iload_n hx hb dX9_pivots_1 rfl (lv_at hl 1 rfl) ?_
  obtain ⟨e55, h40, h41, h42, h43, h44, h45, h46, h47, h48, h49, h50, h51, h52, h53, h54⟩ := (show okX9 ad m_taped m_size m_faultKind m_faultPlace m_at m_end m_token m_number m_name m_bank m_rb m_codes m_within m_piled m_unitsInRule m_askStrand m_askTied m_thoughtClaim m_thoughtNeed m_thoughtAll m_acts m_undone m_laid m_firstMove m_seens m_time m_waysNow m_fitting 148 (f 148) from hT.1 148 (by decide))
  refine tVI (As := [.int p1]) (rest := []) (i := 148) ⟨hx, hb, hml, hown, hts⟩ hK hE hP hD hS hA hAB (s_X9_isClaim_0 l B0 adK adV D cy ad fr0 c_text m_taped m_size m_faultKind m_faultPlace m_at m_end m_token m_number m_name c_points c_strands c_units c_told c_ruleFrom c_ruleTo c_code c_eWhat c_eSign m_bank m_rb m_codes m_within m_piled m_unitsInRule m_askStrand m_askTied m_thoughtClaim m_thoughtNeed m_thoughtAll c_roundOf m_acts m_undone m_laid m_firstMove m_seens m_time m_waysNow m_fitting f hT p1 _) (cwV 1 hts gX9_pivots_X9_isClaim rfl rfl rfl (by decide +kernel) ⟨Nat.le_of_ble_eq_true rfl, Nat.le_of_ble_eq_true rfl⟩) (by decide) 9 e55 rfl rfl hl.1 rfl (Nat.le_of_ble_eq_true rfl) dX9_pivots_2 ⟨Nat.le_of_ble_eq_true rfl, Nat.le_of_ble_eq_true rfl⟩ (fun r g H locs hw hP hD hS => ?_)
  obtain ⟨hrs, rfl⟩ := hw
  obtain ⟨x56, rfl⟩ : ∃ q, q = r := ⟨_, rfl⟩
  rcases hrs with ⟨rfl, h57, h58⟩ | rfl
  · refine lv_if_ne (tgt := 10) hx hb dX9_pivots_5 (by decide) (fun _ => ?_) (fun c => absurd c (by decide))
    refine lv_iconst (v := 0) hx hb dX9_pivots_10 (by decide) ?_
    refine lv_istore_n (lv' := [(2, .int 0), (0, .ref (ad 148)), (1, .int p1)]) hx hb dX9_pivots_11 rfl hl (by decide) rfl (fun ls hl => ?_)
    refine lv_aload_n hx hb dX9_pivots_12 rfl (lv_at hl 1 rfl) ?_
    refine tVI (As := []) (rest := []) (i := 148) ⟨hx, hb, hml, hown, hts⟩ hK hE hP hD hS hA hAB (s_X9_standNow_0 l B0 adK adV D cy ad fr0 c_text m_taped m_size m_faultKind m_faultPlace m_at m_end m_token m_number m_name c_points c_strands c_units c_told c_ruleFrom c_ruleTo c_code c_eWhat c_eSign m_bank m_rb m_codes m_within m_piled m_unitsInRule m_askStrand m_askTied m_thoughtClaim m_thoughtNeed m_thoughtAll c_roundOf m_acts m_undone m_laid m_firstMove m_seens m_time m_waysNow m_fitting f hT hCV _) (cwV 0 hts gX9_pivots_X9_standNow rfl rfl rfl (by decide +kernel) ⟨Nat.le_of_ble_eq_true rfl, Nat.le_of_ble_eq_true rfl⟩) (by decide) 9 e55 rfl rfl hl.1 rfl (Nat.le_of_ble_eq_true rfl) dX9_pivots_13 ⟨Nat.le_of_ble_eq_true rfl, Nat.le_of_ble_eq_true rfl⟩ (fun r f H locs hw hP hD hS => ?_)
    obtain ⟨hrs, x59, x60, y61, hT, h62⟩ := hw
    obtain ⟨x63, rfl⟩ : ∃ q, q = r := ⟨_, rfl⟩
    have h64 := hrs
    refine lv_iload_n hx hb dX9_pivots_16 rfl (lv_at hl 2 rfl) ?_
    refine tSI (As := [.int x63, .int p1]) (rest := []) ⟨hx, hb, hml, hown, hts⟩ hK hE hP hD hS hA hAB (s_X9_bit_0 l B0 adK adV D cy ad f x63 p1 (by omega) _) (va_cwS 2 hts gX9_pivots_X9_bit rfl rfl rfl (by decide +kernel) ⟨Nat.le_of_ble_eq_true rfl, Nat.le_of_ble_eq_true rfl⟩) rfl hl.1 rfl (Nat.le_of_ble_eq_true rfl) dX9_pivots_17 ⟨Nat.le_of_ble_eq_true rfl, Nat.le_of_ble_eq_true rfl⟩ (fun r g H locs hw hP hD hS => ?_)
    obtain ⟨hrs, rfl⟩ := hw
    obtain ⟨x65, rfl⟩ : ∃ q, q = r := ⟨_, rfl⟩
    rcases hrs with ⟨rfl, h66⟩ | ⟨rfl, h67⟩
    · refine lv_istore_n (lv' := [(3, .int 1), (2, .int 0), (0, .ref (ad 148)), (1, .int p1)]) hx hb dX9_pivots_20 rfl hl (by decide) rfl (fun ls hl => ?_)
      refine lv_iconst (v := 0) hx hb dX9_pivots_21 (by decide) ?_
      refine lv_istore (lv' := [(4, .int 0), (3, .int 1), (2, .int 0), (0, .ref (ad 148)), (1, .int p1)]) hx hb dX9_pivots_22 hl (by decide) rfl (fun ls hl => ?_)
      have ttl_0 := tl_0
      have ttl_1 := tl_1
      exact j24 (Int.toNat (13 - (0 : Int32).toInt)) f H locs ls (0 : Int32) (1 : Int32) (0 : Int32) x59 x60 y61 (by omega) (by omega) (by omega) (by omega) (by omega) (by omega) hT hP hD hS (lv_sub hl [0, 1, 2, 3, 4] rfl)
    · refine lv_istore_n (lv' := [(3, .int 0), (2, .int 0), (0, .ref (ad 148)), (1, .int p1)]) hx hb dX9_pivots_20 rfl hl (by decide) rfl (fun ls hl => ?_)
      refine lv_iconst (v := 0) hx hb dX9_pivots_21 (by decide) ?_
      refine lv_istore (lv' := [(4, .int 0), (3, .int 0), (2, .int 0), (0, .ref (ad 148)), (1, .int p1)]) hx hb dX9_pivots_22 hl (by decide) rfl (fun ls hl => ?_)
      have ttl_0 := tl_0
      exact j24 (Int.toNat (13 - (0 : Int32).toInt)) f H locs ls (0 : Int32) (0 : Int32) (0 : Int32) x59 x60 y61 (by omega) (by omega) (by omega) (by omega) (by omega) (by omega) hT hP hD hS (lv_sub hl [0, 1, 2, 3, 4] rfl)
  · refine lv_if_ne (tgt := 10) hx hb dX9_pivots_5 (by decide) (fun c => absurd (by decide) c) (fun _ => ?_)
    refine lv_iconst (v := (-1)) hx hb dX9_pivots_8 (by decide) ?_
    have ttl_m1 := tl_m1
    exact tI hx hb hr hlk rfl hP hS ⟨(by omega), ⟨m_askStrand, m_askTied, c_roundOf, hT⟩⟩ dX9_pivots_9
set_option maxHeartbeats 4000000 in
set_option maxRecDepth 100000 in
theorem s_X9_power_0 (l : Launch) (B0 : Nat) (adK adV : Nat → Nat) (D : va_G) (cy : Nat → ClassId) (ad : Nat → Nat) (fr0 : Nat → va_E) (c_text : Nat → Int32) (m_taped : Int32) (m_size : Int32) (m_faultKind : Int32) (m_faultPlace : Int32) (m_at : Int32) (m_end : Int32) (m_token : Int32) (m_number : Int32) (m_name : Int64) (c_points : Nat → Int32) (c_strands : Nat → Int32) (c_units : Nat → Int32) (c_told : Nat → Int32) (c_ruleFrom : Nat → Int32) (c_ruleTo : Nat → Int32) (c_code : Nat → Int32) (c_eWhat : Nat → Int32) (c_eSign : Nat → Int32) (m_bank : Int32) (m_rb : Int32) (m_codes : Int32) (m_within : Int32) (m_piled : Int32) (m_unitsInRule : Int32) (m_askStrand : Int32) (m_askTied : Int32) (m_thoughtClaim : Int32) (m_thoughtNeed : Int32) (m_thoughtAll : Int32) (c_roundOf : Nat → Int32) (m_acts : Int32) (m_undone : Int32) (m_laid : Int32) (m_firstMove : Int32) (m_seens : Int32) (m_time : Int32) (m_waysNow : Int32) (m_fitting : Int32) (f : Nat → va_E) (hT : TYm ad cy fr0 c_text m_taped m_size m_faultKind m_faultPlace m_at m_end m_token m_number m_name c_points c_strands c_units c_told c_ruleFrom c_ruleTo c_code c_eWhat c_eSign m_bank m_rb m_codes m_within m_piled m_unitsInRule m_askStrand m_askTied m_thoughtClaim m_thoughtNeed m_thoughtAll c_roundOf m_acts m_undone m_laid m_firstMove m_seens m_time m_waysNow m_fitting f) (p1 : Int32) (p2 : Int32) (hCV : CVp c_told c_ruleFrom c_ruleTo c_code m_bank) (sz : Nat) : TtI l yX9_power wsX9_power 8 181 [.ref (ad 148), .int p1, .int p2] B0 adK adV D cy ad f sz (fun (r : Int32) (g : Nat → va_E) => True ∧ (∃ (m_askStrand' : Int32) (m_askTied' : Int32) (c_roundOf' : Nat → Int32), TYm ad cy fr0 c_text m_taped m_size m_faultKind m_faultPlace m_at m_end m_token m_number m_name c_points c_strands c_units c_told c_ruleFrom c_ruleTo c_code c_eWhat c_eSign m_bank m_rb m_codes m_within m_piled m_unitsInRule m_askStrand' m_askTied' m_thoughtClaim m_thoughtNeed m_thoughtAll c_roundOf' m_acts m_undone m_laid m_firstMove m_seens m_time m_waysNow m_fitting g)) := by
  refine TtI.of (cc := cX9_power) (maxL := 5) (ty := .int) (own := RX9) (by decide) rfl (Nat.le_of_ble_eq_true rfl) rfl ?_
  intro p e s m below meth c A ls hx hb hr hml hts hown hlk hK hE hP hD hS hA hAB hl
  have hl : lv_has ls 5 [(0, .ref (ad 148)), (1, .int p1), (2, .int p2)] := hl
  refine st0 (fun H locs hP hS => ?_) hP hS
  have j36 : ∀ (N : Nat) (f : Nat → va_E) (H : Heap) (locs : List Loc) (ls : Array Slot) (v36_l4 : Int32) (v36_l3 : Int32) (v36_p_m_askStrand : Int32) (v36_p_m_askTied : Int32) (v36_p_c_roundOf : Nat → Int32), (4097 - v36_l4.toInt ≤ (N : Int)) → (0 ≤ v36_l4.toInt ∧ v36_l4.toInt ≤ 4096) → (0 ≤ p1.toInt ∧ p1.toInt ≤ 9) → (0 ≤ p2.toInt ∧ p2.toInt ≤ 11) → (TYm ad cy fr0 c_text m_taped m_size m_faultKind m_faultPlace m_at m_end m_token m_number m_name c_points c_strands c_units c_told c_ruleFrom c_ruleTo c_code c_eWhat c_eSign m_bank m_rb m_codes m_within m_piled m_unitsInRule v36_p_m_askStrand v36_p_m_askTied m_thoughtClaim m_thoughtNeed m_thoughtAll v36_p_c_roundOf m_acts m_undone m_laid m_firstMove m_seens m_time m_waysNow m_fitting f) → (va_P D vwCl (wl ad f) H) → (va_D A (wl ad f)) → (va_S A s.heap H locs) → (lv_has ls 5 [(4, .int v36_l4), (3, .int v36_l3), (0, .ref (ad 148)), (1, .int p1), (2, .int p2)]) → W p l e (rmO 8 181 0 0) s m ([.ref (ad 148), .int p1, .int p2] : List Value).toArray below meth c H locs 0 0 (MQ below (va_Qi (fun (r : Int32) (g : Nat → va_E) => True ∧ (∃ (m_askStrand' : Int32) (m_askTied' : Int32) (c_roundOf' : Nat → Int32), TYm ad cy fr0 c_text m_taped m_size m_faultKind m_faultPlace m_at m_end m_token m_number m_name c_points c_strands c_units c_told c_ruleFrom c_ruleTo c_code c_eWhat c_eSign m_bank m_rb m_codes m_within m_piled m_unitsInRule m_askStrand' m_askTied' m_thoughtClaim m_thoughtNeed m_thoughtAll c_roundOf' m_acts m_undone m_laid m_firstMove m_seens m_time m_waysNow m_fitting g)) (fun g t => PstT D ad g t) A) ([.ref (ad 148), .int p1, .int p2] : List Value).toArray s 0 0 A) (F0 m 36 ls []) := by
    intro N
    induction N with
    | zero => intro f H locs ls v36_l4 v36_l3 v36_p_m_askStrand v36_p_m_askTied v36_p_c_roundOf hN hv36_l4 hv36_l1 hv36_l2 hT hP hD hS hl; exact absurd hN (by omega)
    | succ N ih36 =>
      intro f H locs ls v36_l4 v36_l3 v36_p_m_askStrand v36_p_m_askTied v36_p_c_roundOf hN hv36_l4 hv36_l1 hv36_l2 hT hP hD hS hl
      have j99 : ∀ (f : Nat → va_E) (H : Heap) (locs : List Loc) (ls : Array Slot) (v99_l3 : Int32) (v99_p_m_askStrand : Int32) (v99_p_m_askTied : Int32) (v99_p_c_roundOf : Nat → Int32), (0 ≤ v36_l4.toInt ∧ v36_l4.toInt ≤ 4095) → (0 ≤ p1.toInt ∧ p1.toInt ≤ 9) → (0 ≤ p2.toInt ∧ p2.toInt ≤ 11) → (TYm ad cy fr0 c_text m_taped m_size m_faultKind m_faultPlace m_at m_end m_token m_number m_name c_points c_strands c_units c_told c_ruleFrom c_ruleTo c_code c_eWhat c_eSign m_bank m_rb m_codes m_within m_piled m_unitsInRule v99_p_m_askStrand v99_p_m_askTied m_thoughtClaim m_thoughtNeed m_thoughtAll v99_p_c_roundOf m_acts m_undone m_laid m_firstMove m_seens m_time m_waysNow m_fitting f) → (va_P D vwCl (wl ad f) H) → (va_D A (wl ad f)) → (va_S A s.heap H locs) → (lv_has ls 5 [(4, .int v36_l4), (3, .int v99_l3), (0, .ref (ad 148)), (1, .int p1), (2, .int p2)]) → W p l e (rmO 8 181 0 0) s m ([.ref (ad 148), .int p1, .int p2] : List Value).toArray below meth c H locs 0 0 (MQ below (va_Qi (fun (r : Int32) (g : Nat → va_E) => True ∧ (∃ (m_askStrand' : Int32) (m_askTied' : Int32) (c_roundOf' : Nat → Int32), TYm ad cy fr0 c_text m_taped m_size m_faultKind m_faultPlace m_at m_end m_token m_number m_name c_points c_strands c_units c_told c_ruleFrom c_ruleTo c_code c_eWhat c_eSign m_bank m_rb m_codes m_within m_piled m_unitsInRule m_askStrand' m_askTied' m_thoughtClaim m_thoughtNeed m_thoughtAll c_roundOf' m_acts m_undone m_laid m_firstMove m_seens m_time m_waysNow m_fitting g)) (fun g t => PstT D ad g t) A) ([.ref (ad 148), .int p1, .int p2] : List Value).toArray s 0 0 A) (F0 m 99 ls []) := by
        intro f H locs ls v99_l3 v99_p_m_askStrand v99_p_m_askTied v99_p_c_roundOf hv99_l4 hv99_l1 hv99_l2 hT hP hD hS hl
        obtain ⟨x1, ex1⟩ : ∃ q : Int32, q = v36_l4 + Int32.ofInt (1) := ⟨_, rfl⟩
        refine lv_iinc (v := x1) (lv' := [(4, .int x1), (3, .int v99_l3), (0, .ref (ad 148)), (1, .int p1), (2, .int p2)]) hx hb dX9_power_99 hl (k := 0) rfl ex1.symm (by decide) rfl (fun ls hl => ?_)
        have hx1 := r_inc ex1 (by decide) (by omega) (by omega)
        refine lv_goto (tgt := 36) hx hb dX9_power_102 (by decide) ?_
        exact ih36 f H locs ls x1 v99_l3 v99_p_m_askStrand v99_p_m_askTied v99_p_c_roundOf (by omega) (by omega) (by omega) (by omega) hT hP hD hS (lv_sub hl [0, 1, 2, 3, 4] rfl)
      refine lv_iload hx hb dX9_power_36 (lv_at hl 0 rfl) ?_
      refine lv_aload_n hx hb dX9_power_38 rfl (lv_at hl 2 rfl) ?_
      obtain ⟨e17, h2, h3, h4, h5, h6, h7, h8, h9, h10, h11, h12, h13, h14, h15, h16⟩ := (show okX9 ad m_taped m_size m_faultKind m_faultPlace m_at m_end m_token m_number m_name m_bank m_rb m_codes m_within m_piled m_unitsInRule v36_p_m_askStrand v36_p_m_askTied m_thoughtClaim m_thoughtNeed m_thoughtAll m_acts m_undone m_laid m_firstMove m_seens m_time m_waysNow m_fitting 148 (f 148) from hT.1 148 (by decide))
      refine va_get (D := D) (cl := vwCl) (ci := 9) (v := .ref (ad 169)) (C := RX9) (T := TX9) (N := 64) hx hb hts in_X9_power_X9 hown hK hP 148 (wl_at (by decide) e17) rfl 37 (by decide) (hts (.fieldLink RX9 76 "EightReasonsModel" "all" "[I") (List.mem_of_getElem? (i := 1) rfl)) (fun _ h9 => h9) rfl dX9_power_39 ?_
      refine lv_iconst (v := 1) hx hb dX9_power_42 (by decide) ?_
      obtain ⟨g20, e18, h19⟩ := (show okIr cy 16 (0) (4095) 16 1 (f 169) from hT.1 169 (by decide))
      have ttl_1 := tl_1
      refine va_iald hx hb hK hP 169 0 (wl_at (by decide) e18) rfl (vin (by decide)) dX9_power_43 ?_
      refine lv_topi (fun x21 ex21 => ?_)
      have hx21 := r_el (h19 _ (by decide)) ex21
      refine lv_icmp_gt (tgt := 105) hx hb dX9_power_44 (by decide) (fun c22 => ?_) (fun c22 => ?_)
      · have kc22 := c_lt c22
        refine lv_iload_n hx hb dX9_power_105 rfl (lv_at hl 1 rfl) ?_
        exact tI hx hb hr hlk rfl hP hS ⟨trivial, ⟨v36_p_m_askStrand, v36_p_m_askTied, v36_p_c_roundOf, hT⟩⟩ dX9_power_106
      · have kc22 := c_nlt c22
        refine lv_iload hx hb dX9_power_47 (lv_at hl 0 rfl) ?_
        refine lv_aload_n hx hb dX9_power_49 rfl (lv_at hl 2 rfl) ?_
        refine va_get (D := D) (cl := vwCl) (ci := 9) (v := .ref (ad 169)) (C := RX9) (T := TX9) (N := 64) hx hb hts in_X9_power_X9 hown hK hP 148 (wl_at (by decide) e17) rfl 37 (by decide) (hts (.fieldLink RX9 76 "EightReasonsModel" "all" "[I") (List.mem_of_getElem? (i := 1) rfl)) (fun _ h9 => h9) rfl dX9_power_50 ?_
        refine lv_iconst (v := 1) hx hb dX9_power_53 (by decide) ?_
        refine va_iald hx hb hK hP 169 0 (wl_at (by decide) e18) rfl (vin (by decide)) dX9_power_54 ?_
        refine lv_topi (fun x23 ex23 => ?_)
        have hx23 := r_el (h19 _ (by decide)) ex23
        refine lv_iconst (v := (-1)) hx hb dX9_power_55 (by decide) ?_
        refine lv_ixor hx hb dX9_power_56 ?_
        refine lv_topi (fun x24 ex24 => ?_)
        refine lv_iand hx hb dX9_power_57 ?_
        refine lv_topi (fun x25 ex25 => ?_)
        have hx25 := r_andl ex25 (by omega)
        have ttl_0 := tl_0
        refine lv_if_ne (tgt := 99) hx hb dX9_power_58 (by decide) (fun c26 => ?_) (fun c26 => ?_)
        · have kc26 := c_ne c26
          exact j99 f H locs ls v36_l3 v36_p_m_askStrand v36_p_m_askTied v36_p_c_roundOf (by omega) (by omega) (by omega) hT hP hD hS (lv_sub hl [0, 1, 2, 3, 4] rfl)
        · have kc26 := c_eq c26
          refine lv_iload hx hb dX9_power_61 (lv_at hl 0 rfl) ?_
          refine lv_iload_n hx hb dX9_power_63 rfl (lv_at hl 4 rfl) ?_
          refine tSI (As := [.int v36_l4, .int p2]) (rest := []) ⟨hx, hb, hml, hown, hts⟩ hK hE hP hD hS hA hAB (s_X9_bit_0 l B0 adK adV D cy ad f v36_l4 p2 (by omega) _) (va_cwS 2 hts gX9_power_X9_bit rfl rfl rfl (by decide +kernel) ⟨Nat.le_of_ble_eq_true rfl, Nat.le_of_ble_eq_true rfl⟩) rfl hl.1 rfl (Nat.le_of_ble_eq_true rfl) dX9_power_64 ⟨Nat.le_of_ble_eq_true rfl, Nat.le_of_ble_eq_true rfl⟩ (fun r g H locs hw hP hD hS => ?_)
          obtain ⟨hrs, rfl⟩ := hw
          obtain ⟨x27, rfl⟩ : ∃ q, q = r := ⟨_, rfl⟩
          rcases hrs with ⟨rfl, h28⟩ | ⟨rfl, h29⟩
          · refine lv_if_eq (tgt := 99) hx hb dX9_power_67 (by decide) (fun c => absurd c (by decide)) (fun _ => ?_)
            refine lv_aload_n hx hb dX9_power_70 rfl (lv_at hl 2 rfl) ?_
            refine lv_iload_n hx hb dX9_power_71 rfl (lv_at hl 3 rfl) ?_
            refine lv_iload hx hb dX9_power_72 (lv_at hl 0 rfl) ?_
            refine tVI (As := [.int p1, .int v36_l4]) (rest := []) (i := 148) ⟨hx, hb, hml, hown, hts⟩ hK hE hP hD hS hA hAB (s_X9_doesStand_0 l B0 adK adV D cy ad fr0 c_text m_taped m_size m_faultKind m_faultPlace m_at m_end m_token m_number m_name c_points c_strands c_units c_told c_ruleFrom c_ruleTo c_code c_eWhat c_eSign m_bank m_rb m_codes m_within m_piled m_unitsInRule v36_p_m_askStrand v36_p_m_askTied m_thoughtClaim m_thoughtNeed m_thoughtAll v36_p_c_roundOf m_acts m_undone m_laid m_firstMove m_seens m_time m_waysNow m_fitting f hT p1 (by omega) v36_l4 (by omega) hCV _) (cwV 2 hts gX9_power_X9_doesStand rfl rfl rfl (by decide +kernel) ⟨Nat.le_of_ble_eq_true rfl, Nat.le_of_ble_eq_true rfl⟩) (by decide) 9 e17 rfl rfl hl.1 rfl (Nat.le_of_ble_eq_true rfl) dX9_power_74 ⟨Nat.le_of_ble_eq_true rfl, Nat.le_of_ble_eq_true rfl⟩ (fun r f H locs hw hP hD hS => ?_)
            obtain ⟨hrs, x30, x31, y32, hT, h33⟩ := hw
            obtain ⟨x34, rfl⟩ : ∃ q, q = r := ⟨_, rfl⟩
            rcases hrs with rfl | rfl
            · refine lv_if_eq (tgt := 99) hx hb dX9_power_77 (by decide) (fun c => absurd c (by decide)) (fun _ => ?_)
              refine lv_aload_n hx hb dX9_power_80 rfl (lv_at hl 2 rfl) ?_
              refine lv_iload_n hx hb dX9_power_81 rfl (lv_at hl 3 rfl) ?_
              refine lv_iload hx hb dX9_power_82 (lv_at hl 0 rfl) ?_
              refine lv_iconst (v := 1) hx hb dX9_power_84 (by decide) ?_
              refine lv_iload_n hx hb dX9_power_85 rfl (lv_at hl 4 rfl) ?_
              refine lv_ishl hx hb dX9_power_86 ?_
              refine lv_topi (fun x35 ex35 => ?_)
              have hx35 := r_shl (K := 11) (M := 2048) ex35 (by decide) (by decide) (by omega) (by omega)
              refine lv_iconst (v := (-1)) hx hb dX9_power_87 (by decide) ?_
              refine lv_ixor hx hb dX9_power_88 ?_
              refine lv_topi (fun x36 ex36 => ?_)
              refine lv_iand hx hb dX9_power_89 ?_
              refine lv_topi (fun x37 ex37 => ?_)
              have hx37 := r_andl ex37 (by omega)
              obtain ⟨e53, h38, h39, h40, h41, h42, h43, h44, h45, h46, h47, h48, h49, h50, h51, h52⟩ := (show okX9 ad m_taped m_size m_faultKind m_faultPlace m_at m_end m_token m_number m_name m_bank m_rb m_codes m_within m_piled m_unitsInRule x30 x31 m_thoughtClaim m_thoughtNeed m_thoughtAll m_acts m_undone m_laid m_firstMove m_seens m_time m_waysNow m_fitting 148 (f 148) from hT.1 148 (by decide))
              refine tVI (As := [.int p1, .int x37]) (rest := []) (i := 148) ⟨hx, hb, hml, hown, hts⟩ hK hE hP hD hS hA hAB (s_X9_doesStand_0 l B0 adK adV D cy ad fr0 c_text m_taped m_size m_faultKind m_faultPlace m_at m_end m_token m_number m_name c_points c_strands c_units c_told c_ruleFrom c_ruleTo c_code c_eWhat c_eSign m_bank m_rb m_codes m_within m_piled m_unitsInRule x30 x31 m_thoughtClaim m_thoughtNeed m_thoughtAll y32 m_acts m_undone m_laid m_firstMove m_seens m_time m_waysNow m_fitting f hT p1 (by omega) x37 (by omega) hCV _) (cwV 2 hts gX9_power_X9_doesStand rfl rfl rfl (by decide +kernel) ⟨Nat.le_of_ble_eq_true rfl, Nat.le_of_ble_eq_true rfl⟩) (by decide) 9 e53 rfl rfl hl.1 rfl (Nat.le_of_ble_eq_true rfl) dX9_power_90 ⟨Nat.le_of_ble_eq_true rfl, Nat.le_of_ble_eq_true rfl⟩ (fun r f H locs hw hP hD hS => ?_)
              obtain ⟨hrs, x54, x55, y56, hT, h57⟩ := hw
              obtain ⟨x58, rfl⟩ : ∃ q, q = r := ⟨_, rfl⟩
              rcases hrs with rfl | rfl
              · refine lv_if_ne (tgt := 99) hx hb dX9_power_93 (by decide) (fun _ => ?_) (fun c => absurd c (by decide))
                exact j99 f H locs ls v36_l3 x54 x55 y56 (by omega) (by omega) (by omega) hT hP hD hS (lv_sub hl [0, 1, 2, 3, 4] rfl)
              · refine lv_if_ne (tgt := 99) hx hb dX9_power_93 (by decide) (fun c => absurd (by decide) c) (fun _ => ?_)
                obtain ⟨x59, ex59⟩ : ∃ q : Int32, q = v36_l3 + Int32.ofInt (1) := ⟨_, rfl⟩
                refine lv_iinc (v := x59) (lv' := [(3, .int x59), (4, .int v36_l4), (0, .ref (ad 148)), (1, .int p1), (2, .int p2)]) hx hb dX9_power_96 hl (k := 1) rfl ex59.symm (by decide) rfl (fun ls hl => ?_)
                exact j99 f H locs ls x59 x54 x55 y56 (by omega) (by omega) (by omega) hT hP hD hS (lv_sub hl [1, 0, 2, 3, 4] rfl)
            · refine lv_if_eq (tgt := 99) hx hb dX9_power_77 (by decide) (fun _ => ?_) (fun c => absurd (by decide) c)
              exact j99 f H locs ls v36_l3 x30 x31 y32 (by omega) (by omega) (by omega) hT hP hD hS (lv_sub hl [0, 1, 2, 3, 4] rfl)
          · refine lv_if_eq (tgt := 99) hx hb dX9_power_67 (by decide) (fun _ => ?_) (fun c => absurd (by decide) c)
            exact j99 f H locs ls v36_l3 v36_p_m_askStrand v36_p_m_askTied v36_p_c_roundOf (by omega) (by omega) (by omega) hT hP hD hS (lv_sub hl [0, 1, 2, 3, 4] rfl)
  refine lv_aload_n hx hb dX9_power_0 rfl (lv_at hl 0 rfl) ?_
  refine lv_iload_n hx hb dX9_power_1 rfl (lv_at hl 1 rfl) ?_
  obtain ⟨e75, h60, h61, h62, h63, h64, h65, h66, h67, h68, h69, h70, h71, h72, h73, h74⟩ := (show okX9 ad m_taped m_size m_faultKind m_faultPlace m_at m_end m_token m_number m_name m_bank m_rb m_codes m_within m_piled m_unitsInRule m_askStrand m_askTied m_thoughtClaim m_thoughtNeed m_thoughtAll m_acts m_undone m_laid m_firstMove m_seens m_time m_waysNow m_fitting 148 (f 148) from hT.1 148 (by decide))
  refine tVI (As := [.int p1]) (rest := []) (i := 148) ⟨hx, hb, hml, hown, hts⟩ hK hE hP hD hS hA hAB (s_X9_isClaim_0 l B0 adK adV D cy ad fr0 c_text m_taped m_size m_faultKind m_faultPlace m_at m_end m_token m_number m_name c_points c_strands c_units c_told c_ruleFrom c_ruleTo c_code c_eWhat c_eSign m_bank m_rb m_codes m_within m_piled m_unitsInRule m_askStrand m_askTied m_thoughtClaim m_thoughtNeed m_thoughtAll c_roundOf m_acts m_undone m_laid m_firstMove m_seens m_time m_waysNow m_fitting f hT p1 _) (cwV 1 hts gX9_power_X9_isClaim rfl rfl rfl (by decide +kernel) ⟨Nat.le_of_ble_eq_true rfl, Nat.le_of_ble_eq_true rfl⟩) (by decide) 9 e75 rfl rfl hl.1 rfl (Nat.le_of_ble_eq_true rfl) dX9_power_2 ⟨Nat.le_of_ble_eq_true rfl, Nat.le_of_ble_eq_true rfl⟩ (fun r g H locs hw hP hD hS => ?_)
  obtain ⟨hrs, rfl⟩ := hw
  obtain ⟨x76, rfl⟩ : ∃ q, q = r := ⟨_, rfl⟩
  rcases hrs with ⟨rfl, h77, h78⟩ | rfl
  · refine lv_if_eq (tgt := 29) hx hb dX9_power_5 (by decide) (fun c => absurd c (by decide)) (fun _ => ?_)
    refine lv_aload_n hx hb dX9_power_8 rfl (lv_at hl 0 rfl) ?_
    refine lv_iload_n hx hb dX9_power_9 rfl (lv_at hl 2 rfl) ?_
    refine tVI (As := [.int p2]) (rest := []) (i := 148) ⟨hx, hb, hml, hown, hts⟩ hK hE hP hD hS hA hAB (s_X9_isThread_0 l B0 adK adV D cy ad fr0 c_text m_taped m_size m_faultKind m_faultPlace m_at m_end m_token m_number m_name c_points c_strands c_units c_told c_ruleFrom c_ruleTo c_code c_eWhat c_eSign m_bank m_rb m_codes m_within m_piled m_unitsInRule m_askStrand m_askTied m_thoughtClaim m_thoughtNeed m_thoughtAll c_roundOf m_acts m_undone m_laid m_firstMove m_seens m_time m_waysNow m_fitting f hT p2 _) (cwV 1 hts gX9_power_X9_isThread rfl rfl rfl (by decide +kernel) ⟨Nat.le_of_ble_eq_true rfl, Nat.le_of_ble_eq_true rfl⟩) (by decide) 9 e75 rfl rfl hl.1 rfl (Nat.le_of_ble_eq_true rfl) dX9_power_10 ⟨Nat.le_of_ble_eq_true rfl, Nat.le_of_ble_eq_true rfl⟩ (fun r g H locs hw hP hD hS => ?_)
    obtain ⟨hrs, rfl⟩ := hw
    obtain ⟨x79, rfl⟩ : ∃ q, q = r := ⟨_, rfl⟩
    rcases hrs with ⟨rfl, h80, h81⟩ | rfl
    · refine lv_if_eq (tgt := 29) hx hb dX9_power_13 (by decide) (fun c => absurd c (by decide)) (fun _ => ?_)
      refine lv_aload_n hx hb dX9_power_16 rfl (lv_at hl 0 rfl) ?_
      refine va_get (D := D) (cl := vwCl) (ci := 9) (v := .ref (ad 169)) (C := RX9) (T := TX9) (N := 64) hx hb hts in_X9_power_X9 hown hK hP 148 (wl_at (by decide) e75) rfl 37 (by decide) (hts (.fieldLink RX9 76 "EightReasonsModel" "all" "[I") (List.mem_of_getElem? (i := 1) rfl)) (fun _ h9 => h9) rfl dX9_power_17 ?_
      refine lv_iconst (v := 1) hx hb dX9_power_20 (by decide) ?_
      obtain ⟨g84, e82, h83⟩ := (show okIr cy 16 (0) (4095) 16 1 (f 169) from hT.1 169 (by decide))
      have ttl_1 := tl_1
      refine va_iald hx hb hK hP 169 0 (wl_at (by decide) e82) rfl (vin (by decide)) dX9_power_21 ?_
      refine lv_topi (fun x85 ex85 => ?_)
      have hx85 := r_el (h83 _ (by decide)) ex85
      refine lv_iload_n hx hb dX9_power_22 rfl (lv_at hl 2 rfl) ?_
      refine tSI (As := [.int x85, .int p2]) (rest := []) ⟨hx, hb, hml, hown, hts⟩ hK hE hP hD hS hA hAB (s_X9_bit_0 l B0 adK adV D cy ad f x85 p2 (by omega) _) (va_cwS 2 hts gX9_power_X9_bit rfl rfl rfl (by decide +kernel) ⟨Nat.le_of_ble_eq_true rfl, Nat.le_of_ble_eq_true rfl⟩) rfl hl.1 rfl (Nat.le_of_ble_eq_true rfl) dX9_power_23 ⟨Nat.le_of_ble_eq_true rfl, Nat.le_of_ble_eq_true rfl⟩ (fun r g H locs hw hP hD hS => ?_)
      obtain ⟨hrs, rfl⟩ := hw
      obtain ⟨x86, rfl⟩ : ∃ q, q = r := ⟨_, rfl⟩
      rcases hrs with ⟨rfl, h87⟩ | ⟨rfl, h88⟩
      · refine lv_if_ne (tgt := 31) hx hb dX9_power_26 (by decide) (fun _ => ?_) (fun c => absurd c (by decide))
        refine lv_iconst (v := 0) hx hb dX9_power_31 (by decide) ?_
        refine lv_istore_n (lv' := [(3, .int 0), (0, .ref (ad 148)), (1, .int p1), (2, .int p2)]) hx hb dX9_power_32 rfl hl (by decide) rfl (fun ls hl => ?_)
        refine lv_iconst (v := 0) hx hb dX9_power_33 (by decide) ?_
        refine lv_istore (lv' := [(4, .int 0), (3, .int 0), (0, .ref (ad 148)), (1, .int p1), (2, .int p2)]) hx hb dX9_power_34 hl (by decide) rfl (fun ls hl => ?_)
        have ttl_0 := tl_0
        exact j36 (Int.toNat (4097 - (0 : Int32).toInt)) f H locs ls (0 : Int32) (0 : Int32) m_askStrand m_askTied c_roundOf (by omega) (by omega) (by omega) (by omega) hT hP hD hS (lv_sub hl [0, 1, 2, 3, 4] rfl)
      · refine lv_if_ne (tgt := 31) hx hb dX9_power_26 (by decide) (fun c => absurd (by decide) c) (fun _ => ?_)
        refine lv_iconst (v := (-1)) hx hb dX9_power_29 (by decide) ?_
        have ttl_m1 := tl_m1
        exact tI hx hb hr hlk rfl hP hS ⟨trivial, ⟨m_askStrand, m_askTied, c_roundOf, hT⟩⟩ dX9_power_30
    · refine lv_if_eq (tgt := 29) hx hb dX9_power_13 (by decide) (fun _ => ?_) (fun c => absurd (by decide) c)
      refine lv_iconst (v := (-1)) hx hb dX9_power_29 (by decide) ?_
      have ttl_m1 := tl_m1
      exact tI hx hb hr hlk rfl hP hS ⟨trivial, ⟨m_askStrand, m_askTied, c_roundOf, hT⟩⟩ dX9_power_30
  · refine lv_if_eq (tgt := 29) hx hb dX9_power_5 (by decide) (fun _ => ?_) (fun c => absurd (by decide) c)
    refine lv_iconst (v := (-1)) hx hb dX9_power_29 (by decide) ?_
    have ttl_m1 := tl_m1
    exact tI hx hb hr hlk rfl hP hS ⟨trivial, ⟨m_askStrand, m_askTied, c_roundOf, hT⟩⟩ dX9_power_30
