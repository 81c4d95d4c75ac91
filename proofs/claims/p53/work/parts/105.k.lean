set_option maxRecDepth 20000 in
theorem ggX3_read_X5_clear : GoodIn wsX3_read wsX5_clear := goodIn_r _ [11, 12, 13, 14, 15, 16, 17, 18, 19, 277, 278, 279, 280, 281, 282, 283, 284, 285, 286, 287, 288, 289, 290, 291, 292, 293, 294] rfl rfl
set_option maxRecDepth 20000 in
theorem gX3_read_X5_clear : GoodIn wsX3_read (wsV RX3 52 RX5 yX5_clear wsX5_clear) := goodIn_app (goodIn_of _ (by decide +kernel)) ggX3_read_X5_clear
set_option maxRecDepth 20000 in
theorem ggX3_read_X3_advance : GoodIn wsX3_read wsX3_advance := goodIn_r _ [24, 5, 25, 26, 27, 6, 28, 29, 23, 30, 31, 32, 33, 34, 35, 36, 37, 38, 39, 40, 41, 42, 43, 44, 45, 46, 47, 48, 49, 50, 51, 52, 53, 54, 55, 56, 57, 58, 59, 60, 61, 62, 63, 64, 65, 66, 67, 68, 69, 70, 71, 72, 73, 74, 75, 76, 77, 78, 79, 80, 81, 82, 83, 84, 85, 86, 87, 88, 89, 90, 91, 92, 93, 94, 95, 96, 97, 98, 99, 100, 101, 102, 103, 104, 105, 106, 107, 108, 109, 110, 111, 112, 113, 114, 115, 116, 117, 118, 119, 120, 121, 122, 123, 124, 125, 126, 127, 128, 129, 130, 131, 132, 133, 134, 135, 136, 137, 138, 264, 265, 266, 267, 268, 269, 270, 271, 272, 273, 274, 275, 276] rfl rfl
set_option maxRecDepth 20000 in
theorem gX3_read_X3_advance : GoodIn wsX3_read (wsV RX3 64 RX3 yX3_advance wsX3_advance) := goodIn_app (goodIn_of _ (by decide +kernel)) ggX3_read_X3_advance
set_option maxRecDepth 20000 in
theorem ggX3_read_X3_readLine : GoodIn wsX3_read wsX3_readLine := goodIn_r _ [142, 6, 1, 143, 144, 145, 146, 147, 23, 148, 149, 2, 150, 151, 152, 153, 20, 21, 22, 24, 5, 25, 26, 27, 28, 29, 30, 31, 32, 33, 34, 35, 36, 37, 38, 39, 40, 41, 42, 43, 44, 45, 46, 47, 48, 49, 50, 51, 52, 53, 54, 55, 56, 57, 58, 59, 60, 61, 62, 63, 64, 65, 66, 67, 68, 69, 70, 71, 72, 73, 74, 75, 76, 77, 78, 79, 80, 81, 82, 83, 84, 85, 86, 87, 88, 89, 90, 91, 92, 93, 94, 95, 96, 97, 98, 99, 100, 101, 102, 103, 104, 105, 106, 107, 108, 109, 110, 111, 112, 113, 114, 115, 116, 117, 118, 119, 120, 121, 122, 123, 124, 125, 126, 127, 128, 129, 130, 131, 132, 133, 134, 135, 136, 137, 138, 154, 155, 156, 157, 3, 158, 159, 160, 161, 162, 163, 164, 165, 166, 167, 168, 169, 170, 171, 172, 173, 10, 174, 12, 13, 175, 176, 177, 178, 179, 180, 181, 182, 183, 184, 185, 186, 187, 188, 189, 190, 191, 192, 193, 194, 195, 196, 197, 198, 199, 200, 201, 202, 203, 204, 205, 206, 207, 208, 209, 210, 211, 212, 213, 214, 215, 216, 217, 218, 219, 220, 14, 221, 222, 223, 224, 225, 226, 227, 4, 228, 229, 230, 231, 232, 233, 234, 235, 236, 237, 238, 239, 240, 241, 242, 243, 244, 245, 246, 247, 248, 249, 250, 251, 252, 253, 254, 255, 256, 257, 258, 259, 260, 261, 262, 263, 264, 265, 266, 267, 268, 269, 270, 271, 272, 273, 274, 275, 276, 277, 278, 279, 280, 281, 282, 283, 284, 285, 286, 287, 288, 289, 290, 291, 292, 293, 294] rfl rfl
set_option maxRecDepth 20000 in
theorem gX3_read_X3_readLine : GoodIn wsX3_read (wsV RX3 70 RX3 yX3_readLine wsX3_readLine) := goodIn_app (goodIn_of _ (by decide +kernel)) ggX3_read_X3_readLine
theorem dX3_read_0 : decode cX3_read 0 = .ok (.aload_n 0, 1) := by decide +kernel
theorem dX3_read_1 : decode cX3_read 1 = .ok (.getfield 22, 3) := by decide +kernel
theorem dX3_read_4 : decode cX3_read 4 = .ok (.invokevirtual 52, 3) := by decide +kernel
theorem dX3_read_7 : decode cX3_read 7 = .ok (.aload_n 0, 1) := by decide +kernel
theorem dX3_read_8 : decode cX3_read 8 = .ok (.iconst 0, 1) := by decide +kernel
theorem dX3_read_9 : decode cX3_read 9 = .ok (.putfield 55, 3) := by decide +kernel
theorem dX3_read_12 : decode cX3_read 12 = .ok (.aload_n 0, 1) := by decide +kernel
theorem dX3_read_13 : decode cX3_read 13 = .ok (.iconst (-1), 1) := by decide +kernel
theorem dX3_read_14 : decode cX3_read 14 = .ok (.putfield 9, 3) := by decide +kernel
theorem dX3_read_17 : decode cX3_read 17 = .ok (.aload_n 0, 1) := by decide +kernel
theorem dX3_read_18 : decode cX3_read 18 = .ok (.iconst 0, 1) := by decide +kernel
theorem dX3_read_19 : decode cX3_read 19 = .ok (.putfield 58, 3) := by decide +kernel
theorem dX3_read_22 : decode cX3_read 22 = .ok (.aload_n 0, 1) := by decide +kernel
theorem dX3_read_23 : decode cX3_read 23 = .ok (.iconst 0, 1) := by decide +kernel
theorem dX3_read_24 : decode cX3_read 24 = .ok (.putfield 61, 3) := by decide +kernel
theorem dX3_read_27 : decode cX3_read 27 = .ok (.aload_n 0, 1) := by decide +kernel
theorem dX3_read_28 : decode cX3_read 28 = .ok (.invokevirtual 64, 3) := by decide +kernel
theorem dX3_read_31 : decode cX3_read 31 = .ok (.iconst 0, 1) := by decide +kernel
theorem dX3_read_32 : decode cX3_read 32 = .ok (.istore_n 1, 1) := by decide +kernel
theorem dX3_read_33 : decode cX3_read 33 = .ok (.iload_n 1, 1) := by decide +kernel
theorem dX3_read_34 : decode cX3_read 34 = .ok (.sipush 1600, 3) := by decide +kernel
theorem dX3_read_37 : decode cX3_read 37 = .ok (.if_icmp .gt 29, 3) := by decide +kernel
theorem dX3_read_40 : decode cX3_read 40 = .ok (.aload_n 0, 1) := by decide +kernel
theorem dX3_read_41 : decode cX3_read 41 = .ok (.getfield 55, 3) := by decide +kernel
theorem dX3_read_44 : decode cX3_read 44 = .ok (.ifCond .ne 22, 3) := by decide +kernel
theorem dX3_read_47 : decode cX3_read 47 = .ok (.aload_n 0, 1) := by decide +kernel
theorem dX3_read_48 : decode cX3_read 48 = .ok (.getfield 67, 3) := by decide +kernel
theorem dX3_read_51 : decode cX3_read 51 = .ok (.bipush 16, 2) := by decide +kernel
theorem dX3_read_53 : decode cX3_read 53 = .ok (.if_icmp .eq 13, 3) := by decide +kernel
theorem dX3_read_56 : decode cX3_read 56 = .ok (.aload_n 0, 1) := by decide +kernel
theorem dX3_read_57 : decode cX3_read 57 = .ok (.invokevirtual 70, 3) := by decide +kernel
theorem dX3_read_60 : decode cX3_read 60 = .ok (.iinc 1 1, 3) := by decide +kernel
theorem dX3_read_63 : decode cX3_read 63 = .ok (.goto (-30), 3) := by decide +kernel
theorem dX3_read_66 : decode cX3_read 66 = .ok (.aload_n 0, 1) := by decide +kernel
theorem dX3_read_67 : decode cX3_read 67 = .ok (.getfield 55, 3) := by decide +kernel
theorem dX3_read_70 : decode cX3_read 70 = .ok (.ifCond .ne 7, 3) := by decide +kernel
theorem dX3_read_73 : decode cX3_read 73 = .ok (.iconst 1, 1) := by decide +kernel
theorem dX3_read_74 : decode cX3_read 74 = .ok (.goto 4, 3) := by decide +kernel
theorem dX3_read_77 : decode cX3_read 77 = .ok (.iconst 0, 1) := by decide +kernel
theorem dX3_read_78 : decode cX3_read 78 = .ok (.ireturn, 1) := by decide +kernel
set_option maxRecDepth 20000 in
theorem ggX3_readLine_X3_readFact : GoodIn wsX3_readLine wsX3_readFact := goodIn_r _ [9, 2, 10, 11, 12, 13, 14, 8, 15, 16, 17, 18, 19, 20, 21, 22, 23, 1, 24, 25, 26, 27, 28, 29, 30, 31, 32, 33, 34, 35, 36, 37, 38, 39, 40, 41, 42, 43, 44, 45, 46, 47, 48, 49, 50, 51, 52, 53, 54, 55, 56, 57, 58, 59, 60, 61, 62, 63, 64, 65, 66, 67, 68, 69, 70, 71, 72, 73, 74, 75, 76, 77, 78, 79, 80, 81, 82, 83, 84, 85, 86, 87, 88, 89, 90, 91, 92, 93, 94, 95, 96, 97, 98, 99, 100, 101, 102, 103, 104, 105, 106, 107, 108, 109, 110, 111, 112, 113, 114, 115, 116, 117, 118, 119, 120, 121, 122, 123, 124, 125, 126, 127, 128, 129, 130, 131, 132, 133, 134, 135, 136, 137, 138, 139, 140, 141, 142, 143, 144, 145, 146, 147, 148, 149, 150, 151, 152, 153, 154, 155, 156, 157, 158, 159, 160, 161, 162, 251, 252, 253, 254, 255, 256, 257, 258, 259, 260, 261, 262, 263, 264, 265, 266, 267, 268, 269, 270, 271, 272, 273, 274, 275] rfl rfl
set_option maxRecDepth 20000 in
theorem gX3_readLine_X3_readFact : GoodIn wsX3_readLine (wsV RX3 112 RX3 yX3_readFact wsX3_readFact) := goodIn_app (goodIn_of _ (by decide +kernel)) ggX3_readLine_X3_readFact
set_option maxRecDepth 20000 in
theorem ggX3_readLine_X3_readClaim : GoodIn wsX3_readLine wsX3_readClaim := goodIn_r _ [166, 2, 10, 11, 12, 13, 14, 8, 15, 16, 17, 18, 19, 20, 21, 22, 23, 1, 24, 25, 26, 27, 28, 29, 30, 31, 32, 33, 34, 35, 36, 37, 38, 39, 40, 41, 42, 43, 44, 45, 46, 47, 48, 49, 50, 51, 52, 53, 54, 55, 56, 57, 58, 59, 60, 61, 62, 63, 64, 65, 66, 67, 68, 69, 70, 71, 72, 73, 74, 75, 76, 77, 78, 79, 80, 81, 82, 83, 84, 85, 86, 87, 88, 89, 90, 91, 92, 93, 94, 95, 96, 97, 98, 99, 100, 101, 102, 103, 104, 105, 106, 107, 108, 109, 110, 111, 112, 113, 114, 115, 116, 117, 118, 119, 120, 121, 122, 123, 124, 125, 126, 127, 128, 129, 130, 131, 132, 133, 134, 135, 136, 137, 138, 139, 140, 141, 142, 143, 144, 145, 146, 147, 148, 149, 150, 151, 152, 167, 168, 169, 170, 171, 172, 173, 174, 153, 154, 155, 156, 157, 158, 159, 160, 161, 162, 251, 252, 253, 254, 255, 256, 257, 258, 259, 260, 261, 262, 263, 264, 265, 266, 267, 268, 269, 270, 271, 272, 273, 274, 275] rfl rfl
set_option maxRecDepth 20000 in
theorem gX3_readLine_X3_readClaim : GoodIn wsX3_readLine (wsV RX3 115 RX3 yX3_readClaim wsX3_readClaim) := goodIn_app (goodIn_of _ (by decide +kernel)) ggX3_readLine_X3_readClaim
set_option maxRecDepth 20000 in
theorem ggX3_readLine_X3_readStrand : GoodIn wsX3_readLine wsX3_readStrand := goodIn_r _ [178, 2, 179, 1, 11, 12, 13, 14, 8, 15, 16, 17, 18, 19, 20, 21, 22, 23, 24, 25, 26, 27, 28, 29, 30, 31, 32, 33, 34, 35, 36, 37, 38, 39, 40, 41, 42, 43, 44, 45, 46, 47, 48, 49, 50, 51, 52, 53, 54, 55, 56, 57, 58, 59, 60, 61, 62, 63, 64, 65, 66, 67, 68, 69, 70, 71, 72, 73, 74, 75, 76, 77, 78, 79, 80, 81, 82, 83, 84, 85, 86, 87, 88, 89, 90, 91, 92, 93, 94, 95, 96, 97, 98, 99, 100, 101, 102, 103, 104, 105, 106, 107, 108, 109, 110, 111, 112, 113, 114, 115, 116, 117, 118, 119, 120, 121, 122, 123, 124, 125, 126, 127, 128, 129, 130, 131, 132, 133, 134, 135, 136, 137, 138, 139, 180, 181, 182, 183, 149, 150, 151, 152, 10, 144, 167, 168, 169, 170, 145, 146, 147, 148, 184, 185, 186, 187, 188, 189, 190, 191, 192, 156, 193, 158, 194, 195, 196, 197, 159, 198, 199, 200, 201, 171, 172, 173, 174, 202, 203, 204, 205, 206, 207, 208, 209, 162, 161, 251, 252, 253, 254, 255, 256, 257, 258, 259, 260, 261, 262, 263, 264, 265, 266, 267, 268, 269, 270, 271, 272, 273, 274, 275] rfl rfl
set_option maxRecDepth 20000 in
theorem gX3_readLine_X3_readStrand : GoodIn wsX3_readLine (wsV RX3 118 RX3 yX3_readStrand wsX3_readStrand) := goodIn_app (goodIn_of _ (by decide +kernel)) ggX3_readLine_X3_readStrand
set_option maxRecDepth 20000 in
theorem ggX3_readLine_X3_isFirst : GoodIn wsX3_readLine wsX3_isFirst := goodIn_r _ [213, 214, 1, 199, 200, 201, 251, 252, 253, 254, 255, 256, 257, 258, 259, 260, 261, 262, 263] rfl rfl
set_option maxRecDepth 20000 in
theorem gX3_readLine_X3_isFirst : GoodIn wsX3_readLine (wsV RX3 121 RX3 yX3_isFirst wsX3_isFirst) := goodIn_app (goodIn_of _ (by decide +kernel)) ggX3_readLine_X3_isFirst
set_option maxRecDepth 20000 in
theorem ggX3_readLine_X3_begin : GoodIn wsX3_readLine wsX3_begin := goodIn_r _ [15, 16, 17, 18, 8, 19, 20, 21, 22, 23, 1, 24, 25, 26, 27, 28, 29, 30, 31, 32, 33, 34, 35, 36, 37, 38, 39, 40, 41, 42, 43, 44, 45, 46, 47, 48, 49, 50, 51, 52, 53, 54, 55, 56, 57, 58, 59, 60, 61, 62, 63, 64, 65, 66, 67, 68, 69, 70, 71, 72, 73, 74, 75, 76, 77, 78, 79, 80, 81, 82, 83, 84, 85, 86, 87, 88, 89, 90, 91, 92, 93, 94, 95, 96, 97, 98, 99, 100, 101, 102, 103, 104, 105, 106, 107, 108, 109, 110, 111, 112, 113, 114, 115, 116, 117, 118, 119, 120, 121, 122, 123, 124, 125, 126, 127, 128, 129, 130, 131, 132, 133, 134, 135, 136, 137, 138, 11, 139, 251, 252, 253, 254, 255, 256, 257, 258, 259, 260, 261, 262, 263] rfl rfl
set_option maxRecDepth 20000 in
theorem gX3_readLine_X3_begin : GoodIn wsX3_readLine (wsV RX3 125 RX3 yX3_begin wsX3_begin) := goodIn_app (goodIn_of _ (by decide +kernel)) ggX3_readLine_X3_begin
set_option maxRecDepth 20000 in
theorem ggX3_readLine_X3_readEither : GoodIn wsX3_readLine wsX3_readEither := goodIn_r _ [218, 11, 1, 2, 219, 220, 221, 222, 8, 16, 17, 18, 19, 20, 21, 22, 23, 24, 25, 26, 27, 28, 29, 30, 31, 32, 33, 34, 35, 36, 37, 38, 39, 40, 41, 42, 43, 44, 45, 46, 47, 48, 49, 50, 51, 52, 53, 54, 55, 56, 57, 58, 59, 60, 61, 62, 63, 64, 65, 66, 67, 68, 69, 70, 71, 72, 73, 74, 75, 76, 77, 78, 79, 80, 81, 82, 83, 84, 85, 86, 87, 88, 89, 90, 91, 92, 93, 94, 95, 96, 97, 98, 99, 100, 101, 102, 103, 104, 105, 106, 107, 108, 109, 110, 111, 112, 113, 114, 115, 116, 117, 118, 119, 120, 121, 122, 123, 124, 125, 126, 127, 128, 129, 130, 131, 132, 133, 134, 223, 224, 225, 226, 227, 228, 229, 230, 231, 232, 233, 234, 12, 13, 14, 15, 135, 136, 137, 138, 139, 235, 236, 237, 238, 239, 240, 241, 242, 243, 244, 245, 246, 247, 248, 249, 250, 145, 146, 147, 148, 215, 216, 217, 167, 168, 169, 170, 251, 252, 253, 254, 255, 256, 257, 258, 259, 260, 261, 262, 263, 264, 265, 266, 267, 268, 269, 270, 271, 272, 273, 274, 275, 276, 277, 278, 279, 280, 281] rfl rfl
set_option maxRecDepth 20000 in
theorem gX3_readLine_X3_readEither : GoodIn wsX3_readLine (wsV RX3 129 RX3 yX3_readEither wsX3_readEither) := goodIn_app (goodIn_of _ (by decide +kernel)) ggX3_readLine_X3_readEither
set_option maxRecDepth 20000 in
theorem ggX3_readLine_X3_readNumber : GoodIn wsX3_readLine wsX3_readNumber := goodIn_r _ [174, 45, 1, 145, 146, 147, 8, 148, 135, 136, 137, 138, 11, 23, 139, 16, 17, 18, 19, 20, 21, 22, 24, 25, 26, 27, 28, 29, 30, 31, 32, 33, 34, 35, 36, 37, 38, 39, 40, 41, 42, 43, 44, 46, 47, 48, 49, 50, 51, 52, 53, 54, 55, 56, 57, 58, 59, 60, 61, 62, 63, 64, 65, 66, 67, 68, 69, 70, 71, 72, 73, 74, 75, 76, 77, 78, 79, 80, 81, 82, 83, 84, 85, 86, 87, 88, 89, 90, 91, 92, 93, 94, 95, 96, 97, 98, 99, 100, 101, 102, 103, 104, 105, 106, 107, 108, 109, 110, 111, 112, 113, 114, 115, 116, 117, 118, 119, 120, 121, 122, 123, 124, 125, 126, 127, 128, 129, 130, 131, 132, 133, 134, 251, 252, 253, 254, 255, 256, 257, 258, 259, 260, 261, 262, 263] rfl rfl
set_option maxRecDepth 20000 in
theorem gX3_readLine_X3_readNumber : GoodIn wsX3_readLine (wsV RX3 132 RX3 yX3_readNumber wsX3_readNumber) := goodIn_app (goodIn_of _ (by decide +kernel)) ggX3_readLine_X3_readNumber
set_option maxRecDepth 20000 in
theorem ggX3_readLine_X3_refuse : GoodIn wsX3_readLine wsX3_refuse := goodIn_r _ [148, 1, 135, 136, 137, 8, 138, 11, 23, 139, 251, 252, 253, 254, 255, 256, 257, 258, 259, 260, 261, 262, 263] rfl rfl
set_option maxRecDepth 20000 in
theorem gX3_readLine_X3_refuse : GoodIn wsX3_readLine (wsV RX3 109 RX3 yX3_refuse wsX3_refuse) := goodIn_app (goodIn_of _ (by decide +kernel)) ggX3_readLine_X3_refuse
set_option maxRecDepth 20000 in
theorem ggX3_readLine_X3_expect : GoodIn wsX3_readLine wsX3_expect := goodIn_r _ [170, 11, 1, 16, 17, 18, 8, 19, 20, 21, 22, 23, 24, 25, 26, 27, 28, 29, 30, 31, 32, 33, 34, 35, 36, 37, 38, 39, 40, 41, 42, 43, 44, 45, 46, 47, 48, 49, 50, 51, 52, 53, 54, 55, 56, 57, 58, 59, 60, 61, 62, 63, 64, 65, 66, 67, 68, 69, 70, 71, 72, 73, 74, 75, 76, 77, 78, 79, 80, 81, 82, 83, 84, 85, 86, 87, 88, 89, 90, 91, 92, 93, 94, 95, 96, 97, 98, 99, 100, 101, 102, 103, 104, 105, 106, 107, 108, 109, 110, 111, 112, 113, 114, 115, 116, 117, 118, 119, 120, 121, 122, 123, 124, 125, 126, 127, 128, 129, 130, 131, 132, 133, 134, 145, 146, 147, 148, 135, 136, 137, 138, 139, 251, 252, 253, 254, 255, 256, 257, 258, 259, 260, 261, 262, 263] rfl rfl
set_option maxRecDepth 20000 in
theorem gX3_readLine_X3_expect : GoodIn wsX3_readLine (wsV RX3 142 RX3 yX3_expect wsX3_expect) := goodIn_app (goodIn_of _ (by decide +kernel)) ggX3_readLine_X3_expect
theorem dX3_readLine_0 : decode cX3_readLine 0 = .ok (.aload_n 0, 1) := by decide +kernel
theorem dX3_readLine_1 : decode cX3_readLine 1 = .ok (.getfield 67, 3) := by decide +kernel
theorem dX3_readLine_4 : decode cX3_readLine 4 = .ok (.tableswitch 145 0 7 #[48, 55, 145, 62, 145, 69, 88, 116], 48) := by decide +kernel
theorem dX3_readLine_52 : decode cX3_readLine 52 = .ok (.aload_n 0, 1) := by decide +kernel
theorem dX3_readLine_53 : decode cX3_readLine 53 = .ok (.invokevirtual 112, 3) := by decide +kernel
theorem dX3_readLine_56 : decode cX3_readLine 56 = .ok (.goto 97, 3) := by decide +kernel
theorem dX3_readLine_59 : decode cX3_readLine 59 = .ok (.aload_n 0, 1) := by decide +kernel
theorem dX3_readLine_60 : decode cX3_readLine 60 = .ok (.invokevirtual 115, 3) := by decide +kernel
theorem dX3_readLine_63 : decode cX3_readLine 63 = .ok (.goto 90, 3) := by decide +kernel
theorem dX3_readLine_66 : decode cX3_readLine 66 = .ok (.aload_n 0, 1) := by decide +kernel
theorem dX3_readLine_67 : decode cX3_readLine 67 = .ok (.invokevirtual 118, 3) := by decide +kernel
theorem dX3_readLine_70 : decode cX3_readLine 70 = .ok (.goto 83, 3) := by decide +kernel
theorem dX3_readLine_73 : decode cX3_readLine 73 = .ok (.aload_n 0, 1) := by decide +kernel
theorem dX3_readLine_74 : decode cX3_readLine 74 = .ok (.aload_n 0, 1) := by decide +kernel
theorem dX3_readLine_75 : decode cX3_readLine 75 = .ok (.invokevirtual 121, 3) := by decide +kernel
theorem dX3_readLine_78 : decode cX3_readLine 78 = .ok (.invokevirtual 125, 3) := by decide +kernel
theorem dX3_readLine_81 : decode cX3_readLine 81 = .ok (.ifCond .eq 72, 3) := by decide +kernel
theorem dX3_readLine_84 : decode cX3_readLine 84 = .ok (.aload_n 0, 1) := by decide +kernel
theorem dX3_readLine_85 : decode cX3_readLine 85 = .ok (.iconst 0, 1) := by decide +kernel
theorem dX3_readLine_86 : decode cX3_readLine 86 = .ok (.invokevirtual 129, 3) := by decide +kernel
theorem dX3_readLine_89 : decode cX3_readLine 89 = .ok (.goto 64, 3) := by decide +kernel
theorem dX3_readLine_92 : decode cX3_readLine 92 = .ok (.aload_n 0, 1) := by decide +kernel
theorem dX3_readLine_93 : decode cX3_readLine 93 = .ok (.aload_n 0, 1) := by decide +kernel
theorem dX3_readLine_94 : decode cX3_readLine 94 = .ok (.invokevirtual 121, 3) := by decide +kernel
theorem dX3_readLine_97 : decode cX3_readLine 97 = .ok (.invokevirtual 125, 3) := by decide +kernel
theorem dX3_readLine_100 : decode cX3_readLine 100 = .ok (.ifCond .eq 53, 3) := by decide +kernel
theorem dX3_readLine_103 : decode cX3_readLine 103 = .ok (.aload_n 0, 1) := by decide +kernel
theorem dX3_readLine_104 : decode cX3_readLine 104 = .ok (.getfield 22, 3) := by decide +kernel
theorem dX3_readLine_107 : decode cX3_readLine 107 = .ok (.aload_n 0, 1) := by decide +kernel
theorem dX3_readLine_108 : decode cX3_readLine 108 = .ok (.iconst 0, 1) := by decide +kernel
theorem dX3_readLine_109 : decode cX3_readLine 109 = .ok (.bipush 100, 2) := by decide +kernel
theorem dX3_readLine_111 : decode cX3_readLine 111 = .ok (.invokevirtual 132, 3) := by decide +kernel
theorem dX3_readLine_114 : decode cX3_readLine 114 = .ok (.putfield 136, 3) := by decide +kernel
theorem dX3_readLine_117 : decode cX3_readLine 117 = .ok (.goto 36, 3) := by decide +kernel
theorem dX3_readLine_120 : decode cX3_readLine 120 = .ok (.aload_n 0, 1) := by decide +kernel
theorem dX3_readLine_121 : decode cX3_readLine 121 = .ok (.aload_n 0, 1) := by decide +kernel
theorem dX3_readLine_122 : decode cX3_readLine 122 = .ok (.invokevirtual 121, 3) := by decide +kernel
theorem dX3_readLine_125 : decode cX3_readLine 125 = .ok (.invokevirtual 125, 3) := by decide +kernel
theorem dX3_readLine_128 : decode cX3_readLine 128 = .ok (.ifCond .eq 25, 3) := by decide +kernel
theorem dX3_readLine_131 : decode cX3_readLine 131 = .ok (.aload_n 0, 1) := by decide +kernel
theorem dX3_readLine_132 : decode cX3_readLine 132 = .ok (.getfield 22, 3) := by decide +kernel
theorem dX3_readLine_135 : decode cX3_readLine 135 = .ok (.aload_n 0, 1) := by decide +kernel
theorem dX3_readLine_136 : decode cX3_readLine 136 = .ok (.iconst 0, 1) := by decide +kernel
theorem dX3_readLine_137 : decode cX3_readLine 137 = .ok (.sipush 999, 3) := by decide +kernel
theorem dX3_readLine_140 : decode cX3_readLine 140 = .ok (.invokevirtual 132, 3) := by decide +kernel
theorem dX3_readLine_143 : decode cX3_readLine 143 = .ok (.putfield 139, 3) := by decide +kernel
theorem dX3_readLine_146 : decode cX3_readLine 146 = .ok (.goto 7, 3) := by decide +kernel
theorem dX3_readLine_149 : decode cX3_readLine 149 = .ok (.aload_n 0, 1) := by decide +kernel
theorem dX3_readLine_150 : decode cX3_readLine 150 = .ok (.invokevirtual 109, 3) := by decide +kernel
theorem dX3_readLine_153 : decode cX3_readLine 153 = .ok (.aload_n 0, 1) := by decide +kernel
theorem dX3_readLine_154 : decode cX3_readLine 154 = .ok (.bipush 59, 2) := by decide +kernel
theorem dX3_readLine_156 : decode cX3_readLine 156 = .ok (.invokevirtual 142, 3) := by decide +kernel
theorem dX3_readLine_159 : decode cX3_readLine 159 = .ok (.return_, 1) := by decide +kernel
set_option maxRecDepth 20000 in
theorem ggX3_readFact_X3_begin : GoodIn wsX3_readFact wsX3_begin := goodIn_r _ [8, 9, 10, 11, 7, 12, 13, 14, 15, 16, 17, 18, 19, 20, 21, 22, 23, 24, 25, 26, 27, 28, 29, 30, 31, 32, 33, 34, 35, 36, 37, 38, 39, 40, 41, 42, 43, 44, 45, 46, 47, 48, 49, 50, 51, 52, 53, 54, 55, 56, 57, 58, 59, 60, 61, 62, 63, 64, 65, 66, 67, 68, 69, 70, 71, 72, 73, 74, 75, 76, 77, 78, 79, 80, 81, 82, 83, 84, 85, 86, 87, 88, 89, 90, 91, 92, 93, 94, 95, 96, 97, 98, 99, 100, 101, 102, 103, 104, 105, 106, 107, 108, 109, 110, 111, 112, 113, 114, 115, 116, 117, 118, 119, 120, 121, 122, 123, 124, 125, 126, 127, 128, 129, 130, 131, 132, 3, 133, 157, 158, 159, 160, 161, 162, 163, 164, 165, 166, 167, 168, 169] rfl rfl
set_option maxRecDepth 20000 in
theorem gX3_readFact_X3_begin : GoodIn wsX3_readFact (wsV RX3 125 RX3 yX3_begin wsX3_begin) := goodIn_app (goodIn_of _ (by decide +kernel)) ggX3_readFact_X3_begin
set_option maxRecDepth 20000 in
theorem ggX3_readFact_X3_readNewName : GoodIn wsX3_readFact wsX3_readNewName := goodIn_r _ [137, 17, 1, 2, 138, 28, 139, 140, 141, 7, 142, 129, 130, 131, 132, 3, 16, 133, 143, 144, 145, 146, 9, 10, 11, 12, 13, 14, 15, 18, 19, 20, 21, 22, 23, 24, 25, 26, 27, 29, 30, 31, 32, 33, 34, 35, 36, 37, 38, 39, 40, 41, 42, 43, 44, 45, 46, 47, 48, 49, 50, 51, 52, 53, 54, 55, 56, 57, 58, 59, 60, 61, 62, 63, 64, 65, 66, 67, 68, 69, 70, 71, 72, 73, 74, 75, 76, 77, 78, 79, 80, 81, 82, 83, 84, 85, 86, 87, 88, 89, 90, 91, 92, 93, 94, 95, 96, 97, 98, 99, 100, 101, 102, 103, 104, 105, 106, 107, 108, 109, 110, 111, 112, 113, 114, 115, 116, 117, 118, 119, 120, 121, 122, 123, 124, 125, 126, 127, 128, 157, 158, 159, 160, 161, 162, 163, 164, 165, 166, 167, 168, 169, 170, 171, 172, 173, 174, 175, 176, 177, 178, 179, 180, 181] rfl rfl
set_option maxRecDepth 20000 in
theorem gX3_readFact_X3_readNewName : GoodIn wsX3_readFact (wsV RX3 152 RX3 yX3_readNewName wsX3_readNewName) := goodIn_app (goodIn_of _ (by decide +kernel)) ggX3_readFact_X3_readNewName
set_option maxRecDepth 20000 in
theorem ggX3_readFact_X5_addPoint : GoodIn wsX3_readFact wsX5_addPoint := goodIn_r _ [151, 152, 153, 154, 155, 156, 170, 171, 172, 173, 174, 175, 176, 177, 178, 179, 180, 181] rfl rfl
set_option maxRecDepth 20000 in
theorem gX3_readFact_X5_addPoint : GoodIn wsX3_readFact (wsV RX3 155 RX5 yX5_addPoint wsX5_addPoint) := goodIn_app (goodIn_of _ (by decide +kernel)) ggX3_readFact_X5_addPoint
theorem dX3_readFact_0 : decode cX3_readFact 0 = .ok (.aload_n 0, 1) := by decide +kernel
theorem dX3_readFact_1 : decode cX3_readFact 1 = .ok (.aload_n 0, 1) := by decide +kernel
theorem dX3_readFact_2 : decode cX3_readFact 2 = .ok (.getfield 22, 3) := by decide +kernel
theorem dX3_readFact_5 : decode cX3_readFact 5 = .ok (.getfield 149, 3) := by decide +kernel
theorem dX3_readFact_8 : decode cX3_readFact 8 = .ok (.bipush 10, 2) := by decide +kernel
theorem dX3_readFact_10 : decode cX3_readFact 10 = .ok (.if_icmp .ge 7, 3) := by decide +kernel
theorem dX3_readFact_13 : decode cX3_readFact 13 = .ok (.iconst 1, 1) := by decide +kernel
theorem dX3_readFact_14 : decode cX3_readFact 14 = .ok (.goto 4, 3) := by decide +kernel
theorem dX3_readFact_17 : decode cX3_readFact 17 = .ok (.iconst 0, 1) := by decide +kernel
theorem dX3_readFact_18 : decode cX3_readFact 18 = .ok (.invokevirtual 125, 3) := by decide +kernel
theorem dX3_readFact_21 : decode cX3_readFact 21 = .ok (.ifCond .ne 4, 3) := by decide +kernel
theorem dX3_readFact_24 : decode cX3_readFact 24 = .ok (.return_, 1) := by decide +kernel
theorem dX3_readFact_25 : decode cX3_readFact 25 = .ok (.aload_n 0, 1) := by decide +kernel
theorem dX3_readFact_26 : decode cX3_readFact 26 = .ok (.invokevirtual 152, 3) := by decide +kernel
theorem dX3_readFact_29 : decode cX3_readFact 29 = .ok (.aload_n 0, 1) := by decide +kernel
theorem dX3_readFact_30 : decode cX3_readFact 30 = .ok (.getfield 55, 3) := by decide +kernel
theorem dX3_readFact_33 : decode cX3_readFact 33 = .ok (.ifCond .ne 12, 3) := by decide +kernel
theorem dX3_readFact_36 : decode cX3_readFact 36 = .ok (.aload_n 0, 1) := by decide +kernel
theorem dX3_readFact_37 : decode cX3_readFact 37 = .ok (.getfield 22, 3) := by decide +kernel
theorem dX3_readFact_40 : decode cX3_readFact 40 = .ok (.iconst 1, 1) := by decide +kernel
theorem dX3_readFact_41 : decode cX3_readFact 41 = .ok (.iconst 0, 1) := by decide +kernel
theorem dX3_readFact_42 : decode cX3_readFact 42 = .ok (.invokevirtual 155, 3) := by decide +kernel
theorem dX3_readFact_45 : decode cX3_readFact 45 = .ok (.return_, 1) := by decide +kernel
set_option maxRecDepth 20000 in
theorem ggX3_readStrand_X3_begin : GoodIn wsX3_readStrand wsX3_begin := goodIn_r _ [9, 10, 11, 12, 8, 13, 14, 15, 16, 17, 3, 18, 19, 20, 21, 22, 23, 24, 25, 26, 27, 28, 29, 30, 31, 32, 33, 34, 35, 36, 37, 38, 39, 40, 41, 42, 43, 44, 45, 46, 47, 48, 49, 50, 51, 52, 53, 54, 55, 56, 57, 58, 59, 60, 61, 62, 63, 64, 65, 66, 67, 68, 69, 70, 71, 72, 73, 74, 75, 76, 77, 78, 79, 80, 81, 82, 83, 84, 85, 86, 87, 88, 89, 90, 91, 92, 93, 94, 95, 96, 97, 98, 99, 100, 101, 102, 103, 104, 105, 106, 107, 108, 109, 110, 111, 112, 113, 114, 115, 116, 117, 118, 119, 120, 121, 122, 123, 124, 125, 126, 127, 128, 129, 130, 131, 132, 4, 133, 187, 188, 189, 190, 191, 192, 193, 194, 195, 196, 197, 198, 199] rfl rfl
set_option maxRecDepth 20000 in
theorem gX3_readStrand_X3_begin : GoodIn wsX3_readStrand (wsV RX3 125 RX3 yX3_begin wsX3_begin) := goodIn_app (goodIn_of _ (by decide +kernel)) ggX3_readStrand_X3_begin
set_option maxRecDepth 20000 in
theorem ggX3_readStrand_X3_pointNamed : GoodIn wsX3_readStrand wsX3_pointNamed := goodIn_r _ [137, 3, 138, 139, 140, 8, 141, 1, 142, 143, 28, 129, 130, 131, 132, 4, 17, 133, 187, 188, 189, 190, 191, 192, 193, 194, 195, 196, 197, 198, 199, 200, 201, 202, 203, 204, 205, 206, 207, 208, 209, 210, 211] rfl rfl
set_option maxRecDepth 20000 in
theorem gX3_readStrand_X3_pointNamed : GoodIn wsX3_readStrand (wsV RX3 162 RX3 yX3_pointNamed wsX3_pointNamed) := goodIn_app (goodIn_of _ (by decide +kernel)) ggX3_readStrand_X3_pointNamed
set_option maxRecDepth 20000 in
theorem ggX3_readStrand_X3_expect : GoodIn wsX3_readStrand wsX3_expect := goodIn_r _ [147, 4, 3, 10, 11, 12, 8, 13, 14, 15, 16, 17, 18, 19, 20, 21, 22, 23, 24, 25, 26, 27, 28, 29, 30, 31, 32, 33, 34, 35, 36, 37, 38, 39, 40, 41, 42, 43, 44, 45, 46, 47, 48, 49, 50, 51, 52, 53, 54, 55, 56, 57, 58, 59, 60, 61, 62, 63, 64, 65, 66, 67, 68, 69, 70, 71, 72, 73, 74, 75, 76, 77, 78, 79, 80, 81, 82, 83, 84, 85, 86, 87, 88, 89, 90, 91, 92, 93, 94, 95, 96, 97, 98, 99, 100, 101, 102, 103, 104, 105, 106, 107, 108, 109, 110, 111, 112, 113, 114, 115, 116, 117, 118, 119, 120, 121, 122, 123, 124, 125, 126, 127, 128, 148, 149, 150, 151, 129, 130, 131, 132, 133, 187, 188, 189, 190, 191, 192, 193, 194, 195, 196, 197, 198, 199] rfl rfl
set_option maxRecDepth 20000 in
theorem gX3_readStrand_X3_expect : GoodIn wsX3_readStrand (wsV RX3 142 RX3 yX3_expect wsX3_expect) := goodIn_app (goodIn_of _ (by decide +kernel)) ggX3_readStrand_X3_expect
set_option maxRecDepth 20000 in
theorem ggX3_readStrand_X3_mayLead : GoodIn wsX3_readStrand wsX3_mayLead := goodIn_r _ [155, 1, 156, 157, 158, 159, 160, 161, 162, 163, 164, 165, 166, 167, 168, 169, 170, 171, 172, 187, 188, 189, 190, 191, 192, 193, 194, 195, 196, 197, 198, 199, 200, 201, 202, 203, 204, 205, 206, 207, 208, 209, 210, 211] rfl rfl
set_option maxRecDepth 20000 in
theorem gX3_readStrand_X3_mayLead : GoodIn wsX3_readStrand (wsV RX3 165 RX3 yX3_mayLead wsX3_mayLead) := goodIn_app (goodIn_of _ (by decide +kernel)) ggX3_readStrand_X3_mayLead
set_option maxRecDepth 20000 in
theorem ggX3_readStrand_X3_blame : GoodIn wsX3_readStrand wsX3_blame := goodIn_r _ [132, 4, 17, 133, 187, 188, 189, 190, 191, 192, 193, 194, 195, 196, 197, 198, 199] rfl rfl
set_option maxRecDepth 20000 in
theorem gX3_readStrand_X3_blame : GoodIn wsX3_readStrand (wsV RX3 105 RX3 yX3_blame wsX3_blame) := goodIn_app (goodIn_of _ (by decide +kernel)) ggX3_readStrand_X3_blame
set_option maxRecDepth 20000 in
theorem ggX3_readStrand_X3_readNumber : GoodIn wsX3_readStrand wsX3_readNumber := goodIn_r _ [176, 39, 3, 148, 149, 150, 8, 151, 129, 130, 131, 132, 4, 17, 133, 10, 11, 12, 13, 14, 15, 16, 18, 19, 20, 21, 22, 23, 24, 25, 26, 27, 28, 29, 30, 31, 32, 33, 34, 35, 36, 37, 38, 40, 41, 42, 43, 44, 45, 46, 47, 48, 49, 50, 51, 52, 53, 54, 55, 56, 57, 58, 59, 60, 61, 62, 63, 64, 65, 66, 67, 68, 69, 70, 71, 72, 73, 74, 75, 76, 77, 78, 79, 80, 81, 82, 83, 84, 85, 86, 87, 88, 89, 90, 91, 92, 93, 94, 95, 96, 97, 98, 99, 100, 101, 102, 103, 104, 105, 106, 107, 108, 109, 110, 111, 112, 113, 114, 115, 116, 117, 118, 119, 120, 121, 122, 123, 124, 125, 126, 127, 128, 187, 188, 189, 190, 191, 192, 193, 194, 195, 196, 197, 198, 199] rfl rfl
set_option maxRecDepth 20000 in
theorem gX3_readStrand_X3_readNumber : GoodIn wsX3_readStrand (wsV RX3 132 RX3 yX3_readNumber wsX3_readNumber) := goodIn_app (goodIn_of _ (by decide +kernel)) ggX3_readStrand_X3_readNumber
set_option maxRecDepth 20000 in
theorem ggX3_readStrand_X5_addStrand : GoodIn wsX3_readStrand wsX5_addStrand := goodIn_r _ [180, 181, 182, 183, 184, 185, 186, 169, 159, 160, 161, 162, 163, 200, 201, 202, 203, 204, 205, 206, 207, 208, 209, 210, 211] rfl rfl
set_option maxRecDepth 20000 in
theorem gX3_readStrand_X5_addStrand : GoodIn wsX3_readStrand (wsV RX3 168 RX5 yX5_addStrand wsX5_addStrand) := goodIn_app (goodIn_of _ (by decide +kernel)) ggX3_readStrand_X5_addStrand
theorem dX3_readStrand_0 : decode cX3_readStrand 0 = .ok (.aload_n 0, 1) := by decide +kernel
theorem dX3_readStrand_1 : decode cX3_readStrand 1 = .ok (.aload_n 0, 1) := by decide +kernel
theorem dX3_readStrand_2 : decode cX3_readStrand 2 = .ok (.getfield 22, 3) := by decide +kernel
theorem dX3_readStrand_5 : decode cX3_readStrand 5 = .ok (.getfield 159, 3) := by decide +kernel
theorem dX3_readStrand_8 : decode cX3_readStrand 8 = .ok (.bipush 12, 2) := by decide +kernel
theorem dX3_readStrand_10 : decode cX3_readStrand 10 = .ok (.if_icmp .ge 7, 3) := by decide +kernel
theorem dX3_readStrand_13 : decode cX3_readStrand 13 = .ok (.iconst 1, 1) := by decide +kernel
theorem dX3_readStrand_14 : decode cX3_readStrand 14 = .ok (.goto 4, 3) := by decide +kernel
theorem dX3_readStrand_17 : decode cX3_readStrand 17 = .ok (.iconst 0, 1) := by decide +kernel
theorem dX3_readStrand_18 : decode cX3_readStrand 18 = .ok (.invokevirtual 125, 3) := by decide +kernel
theorem dX3_readStrand_21 : decode cX3_readStrand 21 = .ok (.ifCond .ne 4, 3) := by decide +kernel
theorem dX3_readStrand_24 : decode cX3_readStrand 24 = .ok (.return_, 1) := by decide +kernel
theorem dX3_readStrand_25 : decode cX3_readStrand 25 = .ok (.aload_n 0, 1) := by decide +kernel
theorem dX3_readStrand_26 : decode cX3_readStrand 26 = .ok (.invokevirtual 162, 3) := by decide +kernel
theorem dX3_readStrand_29 : decode cX3_readStrand 29 = .ok (.istore_n 1, 1) := by decide +kernel
theorem dX3_readStrand_30 : decode cX3_readStrand 30 = .ok (.aload_n 0, 1) := by decide +kernel
theorem dX3_readStrand_31 : decode cX3_readStrand 31 = .ok (.bipush 14, 2) := by decide +kernel
theorem dX3_readStrand_33 : decode cX3_readStrand 33 = .ok (.invokevirtual 142, 3) := by decide +kernel
theorem dX3_readStrand_36 : decode cX3_readStrand 36 = .ok (.aload_n 0, 1) := by decide +kernel
theorem dX3_readStrand_37 : decode cX3_readStrand 37 = .ok (.invokevirtual 162, 3) := by decide +kernel
theorem dX3_readStrand_40 : decode cX3_readStrand 40 = .ok (.istore_n 2, 1) := by decide +kernel
theorem dX3_readStrand_41 : decode cX3_readStrand 41 = .ok (.aload_n 0, 1) := by decide +kernel
theorem dX3_readStrand_42 : decode cX3_readStrand 42 = .ok (.getfield 67, 3) := by decide +kernel
theorem dX3_readStrand_45 : decode cX3_readStrand 45 = .ok (.bipush 14, 2) := by decide +kernel
theorem dX3_readStrand_47 : decode cX3_readStrand 47 = .ok (.if_icmp .ne 17, 3) := by decide +kernel
theorem dX3_readStrand_50 : decode cX3_readStrand 50 = .ok (.aload_n 0, 1) := by decide +kernel
theorem dX3_readStrand_51 : decode cX3_readStrand 51 = .ok (.iload_n 1, 1) := by decide +kernel
theorem dX3_readStrand_52 : decode cX3_readStrand 52 = .ok (.iload_n 2, 1) := by decide +kernel
theorem dX3_readStrand_53 : decode cX3_readStrand 53 = .ok (.invokevirtual 165, 3) := by decide +kernel
theorem dX3_readStrand_56 : decode cX3_readStrand 56 = .ok (.ifCond .ne 8, 3) := by decide +kernel
theorem dX3_readStrand_59 : decode cX3_readStrand 59 = .ok (.aload_n 0, 1) := by decide +kernel
theorem dX3_readStrand_60 : decode cX3_readStrand 60 = .ok (.iconst 3, 1) := by decide +kernel
theorem dX3_readStrand_61 : decode cX3_readStrand 61 = .ok (.invokevirtual 105, 3) := by decide +kernel
theorem dX3_readStrand_64 : decode cX3_readStrand 64 = .ok (.aload_n 0, 1) := by decide +kernel
theorem dX3_readStrand_65 : decode cX3_readStrand 65 = .ok (.bipush 14, 2) := by decide +kernel
theorem dX3_readStrand_67 : decode cX3_readStrand 67 = .ok (.invokevirtual 142, 3) := by decide +kernel
theorem dX3_readStrand_70 : decode cX3_readStrand 70 = .ok (.aload_n 0, 1) := by decide +kernel
theorem dX3_readStrand_71 : decode cX3_readStrand 71 = .ok (.iconst 4, 1) := by decide +kernel
theorem dX3_readStrand_72 : decode cX3_readStrand 72 = .ok (.invokevirtual 142, 3) := by decide +kernel
theorem dX3_readStrand_75 : decode cX3_readStrand 75 = .ok (.aload_n 0, 1) := by decide +kernel
theorem dX3_readStrand_76 : decode cX3_readStrand 76 = .ok (.iconst 1, 1) := by decide +kernel
theorem dX3_readStrand_77 : decode cX3_readStrand 77 = .ok (.bipush 20, 2) := by decide +kernel
theorem dX3_readStrand_79 : decode cX3_readStrand 79 = .ok (.invokevirtual 132, 3) := by decide +kernel
theorem dX3_readStrand_82 : decode cX3_readStrand 82 = .ok (.istore_n 3, 1) := by decide +kernel
theorem dX3_readStrand_83 : decode cX3_readStrand 83 = .ok (.aload_n 0, 1) := by decide +kernel
theorem dX3_readStrand_84 : decode cX3_readStrand 84 = .ok (.getfield 55, 3) := by decide +kernel
theorem dX3_readStrand_87 : decode cX3_readStrand 87 = .ok (.ifCond .ne 13, 3) := by decide +kernel
theorem dX3_readStrand_90 : decode cX3_readStrand 90 = .ok (.aload_n 0, 1) := by decide +kernel
theorem dX3_readStrand_91 : decode cX3_readStrand 91 = .ok (.getfield 22, 3) := by decide +kernel
theorem dX3_readStrand_94 : decode cX3_readStrand 94 = .ok (.iload_n 1, 1) := by decide +kernel
theorem dX3_readStrand_95 : decode cX3_readStrand 95 = .ok (.iload_n 2, 1) := by decide +kernel
theorem dX3_readStrand_96 : decode cX3_readStrand 96 = .ok (.iload_n 3, 1) := by decide +kernel
theorem dX3_readStrand_97 : decode cX3_readStrand 97 = .ok (.invokevirtual 168, 3) := by decide +kernel
theorem dX3_readStrand_100 : decode cX3_readStrand 100 = .ok (.return_, 1) := by decide +kernel
set_option maxRecDepth 20000 in
theorem ggX3_mayLead_X5_isPoint : GoodIn wsX3_mayLead wsX5_isPoint := goodIn_r _ [8, 9, 32, 33, 34, 35, 36, 37, 38, 39, 40, 41, 42, 43] rfl rfl
set_option maxRecDepth 20000 in
theorem gX3_mayLead_X5_isPoint : GoodIn wsX3_mayLead (wsV RX3 172 RX5 yX5_isPoint wsX5_isPoint) := goodIn_app (goodIn_of _ (by decide +kernel)) ggX3_mayLead_X5_isPoint
set_option maxRecDepth 20000 in
theorem ggX3_mayLead_X5_isClaim : GoodIn wsX3_mayLead wsX5_isClaim := goodIn_r _ [13, 14, 15, 5, 6, 7, 8, 9, 16, 17, 18, 32, 33, 34, 35, 36, 37, 38, 39, 40, 41, 42, 43] rfl rfl
set_option maxRecDepth 20000 in
theorem gX3_mayLead_X5_isClaim : GoodIn wsX3_mayLead (wsV RX3 175 RX5 yX5_isClaim wsX5_isClaim) := goodIn_app (goodIn_of _ (by decide +kernel)) ggX3_mayLead_X5_isClaim
theorem dX3_mayLead_0 : decode cX3_mayLead 0 = .ok (.iload_n 1, 1) := by decide +kernel
theorem dX3_mayLead_1 : decode cX3_mayLead 1 = .ok (.iload_n 2, 1) := by decide +kernel
theorem dX3_mayLead_2 : decode cX3_mayLead 2 = .ok (.if_icmp .eq 25, 3) := by decide +kernel
theorem dX3_mayLead_5 : decode cX3_mayLead 5 = .ok (.aload_n 0, 1) := by decide +kernel
theorem dX3_mayLead_6 : decode cX3_mayLead 6 = .ok (.getfield 22, 3) := by decide +kernel
theorem dX3_mayLead_9 : decode cX3_mayLead 9 = .ok (.iload_n 1, 1) := by decide +kernel
theorem dX3_mayLead_10 : decode cX3_mayLead 10 = .ok (.invokevirtual 172, 3) := by decide +kernel
theorem dX3_mayLead_13 : decode cX3_mayLead 13 = .ok (.ifCond .eq 14, 3) := by decide +kernel
theorem dX3_mayLead_16 : decode cX3_mayLead 16 = .ok (.aload_n 0, 1) := by decide +kernel
theorem dX3_mayLead_17 : decode cX3_mayLead 17 = .ok (.getfield 22, 3) := by decide +kernel
theorem dX3_mayLead_20 : decode cX3_mayLead 20 = .ok (.iload_n 2, 1) := by decide +kernel
theorem dX3_mayLead_21 : decode cX3_mayLead 21 = .ok (.invokevirtual 175, 3) := by decide +kernel
theorem dX3_mayLead_24 : decode cX3_mayLead 24 = .ok (.ifCond .ne 5, 3) := by decide +kernel
theorem dX3_mayLead_27 : decode cX3_mayLead 27 = .ok (.iconst 0, 1) := by decide +kernel
theorem dX3_mayLead_28 : decode cX3_mayLead 28 = .ok (.ireturn, 1) := by decide +kernel
theorem dX3_mayLead_29 : decode cX3_mayLead 29 = .ok (.aload_n 0, 1) := by decide +kernel
theorem dX3_mayLead_30 : decode cX3_mayLead 30 = .ok (.getfield 22, 3) := by decide +kernel
theorem dX3_mayLead_33 : decode cX3_mayLead 33 = .ok (.getfield 178, 3) := by decide +kernel
theorem dX3_mayLead_36 : decode cX3_mayLead 36 = .ok (.iload_n 1, 1) := by decide +kernel
theorem dX3_mayLead_37 : decode cX3_mayLead 37 = .ok (.iaload, 1) := by decide +kernel
theorem dX3_mayLead_38 : decode cX3_mayLead 38 = .ok (.aload_n 0, 1) := by decide +kernel
theorem dX3_mayLead_39 : decode cX3_mayLead 39 = .ok (.getfield 22, 3) := by decide +kernel
theorem dX3_mayLead_42 : decode cX3_mayLead 42 = .ok (.getfield 182, 3) := by decide +kernel
theorem dX3_mayLead_45 : decode cX3_mayLead 45 = .ok (.iload_n 2, 1) := by decide +kernel
theorem dX3_mayLead_46 : decode cX3_mayLead 46 = .ok (.iaload, 1) := by decide +kernel
theorem dX3_mayLead_47 : decode cX3_mayLead 47 = .ok (.iand, 1) := by decide +kernel
theorem dX3_mayLead_48 : decode cX3_mayLead 48 = .ok (.ifCond .ne 7, 3) := by decide +kernel
theorem dX3_mayLead_51 : decode cX3_mayLead 51 = .ok (.iconst 1, 1) := by decide +kernel
theorem dX3_mayLead_52 : decode cX3_mayLead 52 = .ok (.goto 4, 3) := by decide +kernel
theorem dX3_mayLead_55 : decode cX3_mayLead 55 = .ok (.iconst 0, 1) := by decide +kernel
theorem dX3_mayLead_56 : decode cX3_mayLead 56 = .ok (.ireturn, 1) := by decide +kernel
set_option maxRecDepth 20000 in
theorem ggX3_pointNamed_X3_find : GoodIn wsX3_pointNamed wsX3_find := goodIn_r _ [6, 7, 8, 9, 10, 18, 19, 20, 21, 22, 23, 24, 25, 26, 27, 28, 29, 30, 31, 32, 33, 34, 35, 36, 37, 38, 39, 40, 41, 42] rfl rfl
set_option maxRecDepth 20000 in
theorem gX3_pointNamed_X3_find : GoodIn wsX3_pointNamed (wsV RX3 185 RX3 yX3_find wsX3_find) := goodIn_app (goodIn_of _ (by decide +kernel)) ggX3_pointNamed_X3_find
set_option maxRecDepth 20000 in
theorem ggX3_pointNamed_X3_blame : GoodIn wsX3_pointNamed wsX3_blame := goodIn_r _ [14, 15, 16, 17, 18, 19, 20, 21, 22, 23, 24, 25, 26, 27, 28, 29, 30] rfl rfl
set_option maxRecDepth 20000 in
theorem gX3_pointNamed_X3_blame : GoodIn wsX3_pointNamed (wsV RX3 105 RX3 yX3_blame wsX3_blame) := goodIn_app (goodIn_of _ (by decide +kernel)) ggX3_pointNamed_X3_blame
theorem dX3_pointNamed_0 : decode cX3_pointNamed 0 = .ok (.aload_n 0, 1) := by decide +kernel
theorem dX3_pointNamed_1 : decode cX3_pointNamed 1 = .ok (.invokevirtual 185, 3) := by decide +kernel
theorem dX3_pointNamed_4 : decode cX3_pointNamed 4 = .ok (.istore_n 1, 1) := by decide +kernel
theorem dX3_pointNamed_5 : decode cX3_pointNamed 5 = .ok (.aload_n 0, 1) := by decide +kernel
theorem dX3_pointNamed_6 : decode cX3_pointNamed 6 = .ok (.getfield 67, 3) := by decide +kernel
theorem dX3_pointNamed_9 : decode cX3_pointNamed 9 = .ok (.bipush 14, 2) := by decide +kernel
theorem dX3_pointNamed_11 : decode cX3_pointNamed 11 = .ok (.if_icmp .ne 13, 3) := by decide +kernel
theorem dX3_pointNamed_14 : decode cX3_pointNamed 14 = .ok (.iload_n 1, 1) := by decide +kernel
theorem dX3_pointNamed_15 : decode cX3_pointNamed 15 = .ok (.iconst (-1), 1) := by decide +kernel
theorem dX3_pointNamed_16 : decode cX3_pointNamed 16 = .ok (.if_icmp .ne 8, 3) := by decide +kernel
theorem dX3_pointNamed_19 : decode cX3_pointNamed 19 = .ok (.aload_n 0, 1) := by decide +kernel
theorem dX3_pointNamed_20 : decode cX3_pointNamed 20 = .ok (.iconst 5, 1) := by decide +kernel
theorem dX3_pointNamed_21 : decode cX3_pointNamed 21 = .ok (.invokevirtual 105, 3) := by decide +kernel
theorem dX3_pointNamed_24 : decode cX3_pointNamed 24 = .ok (.iload_n 1, 1) := by decide +kernel
theorem dX3_pointNamed_25 : decode cX3_pointNamed 25 = .ok (.ireturn, 1) := by decide +kernel
set_option maxRecDepth 20000 in
theorem ggX4_startAs_X5_allStrands : GoodIn wsX4_startAs wsX5_allStrands := goodIn_r _ [16, 17, 18, 19, 20, 21, 22, 23, 24, 25, 26, 27, 28, 29] rfl rfl
set_option maxRecDepth 20000 in
theorem gX4_startAs_X5_allStrands : GoodIn wsX4_startAs (wsV RX4 24 RX5 yX5_allStrands wsX5_allStrands) := goodIn_app (goodIn_of _ (by decide +kernel)) ggX4_startAs_X5_allStrands
theorem dX4_startAs_0 : decode cX4_startAs 0 = .ok (.aload_n 1, 1) := by decide +kernel
theorem dX4_startAs_1 : decode cX4_startAs 1 = .ok (.getfield 15, 3) := by decide +kernel
theorem dX4_startAs_4 : decode cX4_startAs 4 = .ok (.iconst 0, 1) := by decide +kernel
theorem dX4_startAs_5 : decode cX4_startAs 5 = .ok (.aload_n 0, 1) := by decide +kernel
theorem dX4_startAs_6 : decode cX4_startAs 6 = .ok (.getfield 9, 3) := by decide +kernel
theorem dX4_startAs_9 : decode cX4_startAs 9 = .ok (.iconst 0, 1) := by decide +kernel
theorem dX4_startAs_10 : decode cX4_startAs 10 = .ok (.bipush 12, 2) := by decide +kernel
theorem dX4_startAs_12 : decode cX4_startAs 12 = .ok (.invokestatic 18, 3) := by decide +kernel
theorem dX4_startAs_15 : decode cX4_startAs 15 = .ok (.aload_n 0, 1) := by decide +kernel
theorem dX4_startAs_16 : decode cX4_startAs 16 = .ok (.aload_n 1, 1) := by decide +kernel
theorem dX4_startAs_17 : decode cX4_startAs 17 = .ok (.invokevirtual 24, 3) := by decide +kernel
theorem dX4_startAs_20 : decode cX4_startAs 20 = .ok (.putfield 28, 3) := by decide +kernel
theorem dX4_startAs_23 : decode cX4_startAs 23 = .ok (.aload_n 0, 1) := by decide +kernel
theorem dX4_startAs_24 : decode cX4_startAs 24 = .ok (.iconst 0, 1) := by decide +kernel
theorem dX4_startAs_25 : decode cX4_startAs 25 = .ok (.putfield 32, 3) := by decide +kernel
theorem dX4_startAs_28 : decode cX4_startAs 28 = .ok (.aload_n 0, 1) := by decide +kernel
theorem dX4_startAs_29 : decode cX4_startAs 29 = .ok (.iconst 0, 1) := by decide +kernel
theorem dX4_startAs_30 : decode cX4_startAs 30 = .ok (.putfield 35, 3) := by decide +kernel
theorem dX4_startAs_33 : decode cX4_startAs 33 = .ok (.aload_n 0, 1) := by decide +kernel
theorem dX4_startAs_34 : decode cX4_startAs 34 = .ok (.aload_n 1, 1) := by decide +kernel
theorem dX4_startAs_35 : decode cX4_startAs 35 = .ok (.getfield 38, 3) := by decide +kernel
theorem dX4_startAs_38 : decode cX4_startAs 38 = .ok (.putfield 41, 3) := by decide +kernel
theorem dX4_startAs_41 : decode cX4_startAs 41 = .ok (.return_, 1) := by decide +kernel
theorem dX5_clear_0 : decode cX5_clear 0 = .ok (.aload_n 0, 1) := by decide +kernel
theorem dX5_clear_1 : decode cX5_clear 1 = .ok (.iconst 0, 1) := by decide +kernel
theorem dX5_clear_2 : decode cX5_clear 2 = .ok (.putfield 37, 3) := by decide +kernel
theorem dX5_clear_5 : decode cX5_clear 5 = .ok (.aload_n 0, 1) := by decide +kernel
theorem dX5_clear_6 : decode cX5_clear 6 = .ok (.iconst 0, 1) := by decide +kernel
theorem dX5_clear_7 : decode cX5_clear 7 = .ok (.putfield 41, 3) := by decide +kernel
theorem dX5_clear_10 : decode cX5_clear 10 = .ok (.aload_n 0, 1) := by decide +kernel
theorem dX5_clear_11 : decode cX5_clear 11 = .ok (.iconst 0, 1) := by decide +kernel
theorem dX5_clear_12 : decode cX5_clear 12 = .ok (.putfield 44, 3) := by decide +kernel
theorem dX5_clear_15 : decode cX5_clear 15 = .ok (.aload_n 0, 1) := by decide +kernel
theorem dX5_clear_16 : decode cX5_clear 16 = .ok (.iconst 0, 1) := by decide +kernel
theorem dX5_clear_17 : decode cX5_clear 17 = .ok (.putfield 47, 3) := by decide +kernel
theorem dX5_clear_20 : decode cX5_clear 20 = .ok (.aload_n 0, 1) := by decide +kernel
theorem dX5_clear_21 : decode cX5_clear 21 = .ok (.iconst 0, 1) := by decide +kernel
theorem dX5_clear_22 : decode cX5_clear 22 = .ok (.putfield 50, 3) := by decide +kernel
theorem dX5_clear_25 : decode cX5_clear 25 = .ok (.aload_n 0, 1) := by decide +kernel
theorem dX5_clear_26 : decode cX5_clear 26 = .ok (.getfield 33, 3) := by decide +kernel
theorem dX5_clear_29 : decode cX5_clear 29 = .ok (.iconst 0, 1) := by decide +kernel
theorem dX5_clear_30 : decode cX5_clear 30 = .ok (.putfield 53, 3) := by decide +kernel
theorem dX5_clear_33 : decode cX5_clear 33 = .ok (.aload_n 0, 1) := by decide +kernel
theorem dX5_clear_34 : decode cX5_clear 34 = .ok (.getfield 33, 3) := by decide +kernel
theorem dX5_clear_37 : decode cX5_clear 37 = .ok (.iconst 0, 1) := by decide +kernel
theorem dX5_clear_38 : decode cX5_clear 38 = .ok (.putfield 56, 3) := by decide +kernel
theorem dX5_clear_41 : decode cX5_clear 41 = .ok (.return_, 1) := by decide +kernel
set_option maxRecDepth 20000 in
theorem ggX5_addStrand_X5_isPoint : GoodIn wsX5_addStrand wsX5_isPoint := goodIn_r _ [11, 12, 13, 14, 15, 16, 17, 18, 19, 20, 21, 22, 23, 24] rfl rfl
set_option maxRecDepth 20000 in
theorem gX5_addStrand_X5_isPoint : GoodIn wsX5_addStrand (wsV RX5 59 RX5 yX5_isPoint wsX5_isPoint) := goodIn_app (goodIn_of _ (by decide +kernel)) ggX5_addStrand_X5_isPoint
theorem dX5_addStrand_0 : decode cX5_addStrand 0 = .ok (.aload_n 0, 1) := by decide +kernel
theorem dX5_addStrand_1 : decode cX5_addStrand 1 = .ok (.getfield 44, 3) := by decide +kernel
theorem dX5_addStrand_4 : decode cX5_addStrand 4 = .ok (.bipush 12, 2) := by decide +kernel
theorem dX5_addStrand_6 : decode cX5_addStrand 6 = .ok (.if_icmp .ge 19, 3) := by decide +kernel
theorem dX5_addStrand_9 : decode cX5_addStrand 9 = .ok (.aload_n 0, 1) := by decide +kernel
theorem dX5_addStrand_10 : decode cX5_addStrand 10 = .ok (.iload_n 1, 1) := by decide +kernel
theorem dX5_addStrand_11 : decode cX5_addStrand 11 = .ok (.invokevirtual 59, 3) := by decide +kernel
theorem dX5_addStrand_14 : decode cX5_addStrand 14 = .ok (.ifCond .eq 11, 3) := by decide +kernel
theorem dX5_addStrand_17 : decode cX5_addStrand 17 = .ok (.aload_n 0, 1) := by decide +kernel
theorem dX5_addStrand_18 : decode cX5_addStrand 18 = .ok (.iload_n 2, 1) := by decide +kernel
theorem dX5_addStrand_19 : decode cX5_addStrand 19 = .ok (.invokevirtual 59, 3) := by decide +kernel
theorem dX5_addStrand_22 : decode cX5_addStrand 22 = .ok (.ifCond .ne 4, 3) := by decide +kernel
theorem dX5_addStrand_25 : decode cX5_addStrand 25 = .ok (.return_, 1) := by decide +kernel
theorem dX5_addStrand_26 : decode cX5_addStrand 26 = .ok (.aload_n 0, 1) := by decide +kernel
theorem dX5_addStrand_27 : decode cX5_addStrand 27 = .ok (.getfield 21, 3) := by decide +kernel
theorem dX5_addStrand_30 : decode cX5_addStrand 30 = .ok (.aload_n 0, 1) := by decide +kernel
theorem dX5_addStrand_31 : decode cX5_addStrand 31 = .ok (.getfield 44, 3) := by decide +kernel
theorem dX5_addStrand_34 : decode cX5_addStrand 34 = .ok (.iload_n 1, 1) := by decide +kernel
theorem dX5_addStrand_35 : decode cX5_addStrand 35 = .ok (.iastore, 1) := by decide +kernel
theorem dX5_addStrand_36 : decode cX5_addStrand 36 = .ok (.aload_n 0, 1) := by decide +kernel
theorem dX5_addStrand_37 : decode cX5_addStrand 37 = .ok (.getfield 24, 3) := by decide +kernel
theorem dX5_addStrand_40 : decode cX5_addStrand 40 = .ok (.aload_n 0, 1) := by decide +kernel
theorem dX5_addStrand_41 : decode cX5_addStrand 41 = .ok (.getfield 44, 3) := by decide +kernel
theorem dX5_addStrand_44 : decode cX5_addStrand 44 = .ok (.iload_n 2, 1) := by decide +kernel
theorem dX5_addStrand_45 : decode cX5_addStrand 45 = .ok (.iastore, 1) := by decide +kernel
theorem dX5_addStrand_46 : decode cX5_addStrand 46 = .ok (.aload_n 0, 1) := by decide +kernel
theorem dX5_addStrand_47 : decode cX5_addStrand 47 = .ok (.getfield 27, 3) := by decide +kernel
theorem dX5_addStrand_50 : decode cX5_addStrand 50 = .ok (.aload_n 0, 1) := by decide +kernel
theorem dX5_addStrand_51 : decode cX5_addStrand 51 = .ok (.getfield 44, 3) := by decide +kernel
theorem dX5_addStrand_54 : decode cX5_addStrand 54 = .ok (.iload_n 3, 1) := by decide +kernel
theorem dX5_addStrand_55 : decode cX5_addStrand 55 = .ok (.iastore, 1) := by decide +kernel
theorem dX5_addStrand_56 : decode cX5_addStrand 56 = .ok (.aload_n 0, 1) := by decide +kernel
theorem dX5_addStrand_57 : decode cX5_addStrand 57 = .ok (.getfield 18, 3) := by decide +kernel
theorem dX5_addStrand_60 : decode cX5_addStrand 60 = .ok (.iload_n 1, 1) := by decide +kernel
theorem dX5_addStrand_61 : decode cX5_addStrand 61 = .ok (.dup2, 1) := by decide +kernel
theorem dX5_addStrand_62 : decode cX5_addStrand 62 = .ok (.iaload, 1) := by decide +kernel
theorem dX5_addStrand_63 : decode cX5_addStrand 63 = .ok (.iconst 1, 1) := by decide +kernel
theorem dX5_addStrand_64 : decode cX5_addStrand 64 = .ok (.aload_n 0, 1) := by decide +kernel
theorem dX5_addStrand_65 : decode cX5_addStrand 65 = .ok (.getfield 44, 3) := by decide +kernel
theorem dX5_addStrand_68 : decode cX5_addStrand 68 = .ok (.ishl, 1) := by decide +kernel
theorem dX5_addStrand_69 : decode cX5_addStrand 69 = .ok (.ior, 1) := by decide +kernel
theorem dX5_addStrand_70 : decode cX5_addStrand 70 = .ok (.iastore, 1) := by decide +kernel
theorem dX5_addStrand_71 : decode cX5_addStrand 71 = .ok (.aload_n 0, 1) := by decide +kernel
theorem dX5_addStrand_72 : decode cX5_addStrand 72 = .ok (.getfield 15, 3) := by decide +kernel
theorem dX5_addStrand_75 : decode cX5_addStrand 75 = .ok (.iload_n 2, 1) := by decide +kernel
theorem dX5_addStrand_76 : decode cX5_addStrand 76 = .ok (.dup2, 1) := by decide +kernel
theorem dX5_addStrand_77 : decode cX5_addStrand 77 = .ok (.iaload, 1) := by decide +kernel
theorem dX5_addStrand_78 : decode cX5_addStrand 78 = .ok (.iconst 1, 1) := by decide +kernel
theorem dX5_addStrand_79 : decode cX5_addStrand 79 = .ok (.aload_n 0, 1) := by decide +kernel
theorem dX5_addStrand_80 : decode cX5_addStrand 80 = .ok (.getfield 44, 3) := by decide +kernel
theorem dX5_addStrand_83 : decode cX5_addStrand 83 = .ok (.ishl, 1) := by decide +kernel
theorem dX5_addStrand_84 : decode cX5_addStrand 84 = .ok (.ior, 1) := by decide +kernel
theorem dX5_addStrand_85 : decode cX5_addStrand 85 = .ok (.iastore, 1) := by decide +kernel
theorem dX5_addStrand_86 : decode cX5_addStrand 86 = .ok (.aload_n 0, 1) := by decide +kernel
theorem dX5_addStrand_87 : decode cX5_addStrand 87 = .ok (.dup, 1) := by decide +kernel
theorem dX5_addStrand_88 : decode cX5_addStrand 88 = .ok (.getfield 44, 3) := by decide +kernel
theorem dX5_addStrand_91 : decode cX5_addStrand 91 = .ok (.iconst 1, 1) := by decide +kernel
theorem dX5_addStrand_92 : decode cX5_addStrand 92 = .ok (.iadd, 1) := by decide +kernel
theorem dX5_addStrand_93 : decode cX5_addStrand 93 = .ok (.putfield 44, 3) := by decide +kernel
theorem dX5_addStrand_96 : decode cX5_addStrand 96 = .ok (.return_, 1) := by decide +kernel
theorem dX5_isPoint_0 : decode cX5_isPoint 0 = .ok (.iload_n 1, 1) := by decide +kernel
theorem dX5_isPoint_1 : decode cX5_isPoint 1 = .ok (.ifCond .lt 15, 3) := by decide +kernel
theorem dX5_isPoint_4 : decode cX5_isPoint 4 = .ok (.iload_n 1, 1) := by decide +kernel
theorem dX5_isPoint_5 : decode cX5_isPoint 5 = .ok (.aload_n 0, 1) := by decide +kernel
theorem dX5_isPoint_6 : decode cX5_isPoint 6 = .ok (.getfield 37, 3) := by decide +kernel
theorem dX5_isPoint_9 : decode cX5_isPoint 9 = .ok (.if_icmp .ge 7, 3) := by decide +kernel
theorem dX5_isPoint_12 : decode cX5_isPoint 12 = .ok (.iconst 1, 1) := by decide +kernel
theorem dX5_isPoint_13 : decode cX5_isPoint 13 = .ok (.goto 4, 3) := by decide +kernel
theorem dX5_isPoint_16 : decode cX5_isPoint 16 = .ok (.iconst 0, 1) := by decide +kernel
theorem dX5_isPoint_17 : decode cX5_isPoint 17 = .ok (.ireturn, 1) := by decide +kernel
set_option maxRecDepth 20000 in
theorem ggX5_isClaim_X5_isPoint : GoodIn wsX5_isClaim wsX5_isPoint := goodIn_r _ [6, 7, 11, 12, 13, 14, 15, 16, 17, 18, 19, 20, 21, 22] rfl rfl
set_option maxRecDepth 20000 in
theorem gX5_isClaim_X5_isPoint : GoodIn wsX5_isClaim (wsV RX5 59 RX5 yX5_isPoint wsX5_isPoint) := goodIn_app (goodIn_of _ (by decide +kernel)) ggX5_isClaim_X5_isPoint
set_option maxRecDepth 20000 in
theorem ggX5_isClaim_X8_has : GoodIn wsX5_isClaim wsX8_has := goodIn_r _ [10] rfl rfl
set_option maxRecDepth 20000 in
theorem gX5_isClaim_X8_has_n63 : GoodIn wsX5_isClaim (wsX8_has) := ggX5_isClaim_X8_has
theorem dX5_isClaim_0 : decode cX5_isClaim 0 = .ok (.aload_n 0, 1) := by decide +kernel
theorem dX5_isClaim_1 : decode cX5_isClaim 1 = .ok (.iload_n 1, 1) := by decide +kernel
theorem dX5_isClaim_2 : decode cX5_isClaim 2 = .ok (.invokevirtual 59, 3) := by decide +kernel
theorem dX5_isClaim_5 : decode cX5_isClaim 5 = .ok (.ifCond .eq 18, 3) := by decide +kernel
theorem dX5_isClaim_8 : decode cX5_isClaim 8 = .ok (.aload_n 0, 1) := by decide +kernel
theorem dX5_isClaim_9 : decode cX5_isClaim 9 = .ok (.getfield 41, 3) := by decide +kernel
theorem dX5_isClaim_12 : decode cX5_isClaim 12 = .ok (.iload_n 1, 1) := by decide +kernel
theorem dX5_isClaim_13 : decode cX5_isClaim 13 = .ok (.invokestatic 63, 3) := by decide +kernel
theorem dX5_isClaim_16 : decode cX5_isClaim 16 = .ok (.ifCond .ne 7, 3) := by decide +kernel
theorem dX5_isClaim_19 : decode cX5_isClaim 19 = .ok (.iconst 1, 1) := by decide +kernel
theorem dX5_isClaim_20 : decode cX5_isClaim 20 = .ok (.goto 4, 3) := by decide +kernel
theorem dX5_isClaim_23 : decode cX5_isClaim 23 = .ok (.iconst 0, 1) := by decide +kernel
theorem dX5_isClaim_24 : decode cX5_isClaim 24 = .ok (.ireturn, 1) := by decide +kernel
theorem dX5_allStrands_0 : decode cX5_allStrands 0 = .ok (.iconst 1, 1) := by decide +kernel
theorem dX5_allStrands_1 : decode cX5_allStrands 1 = .ok (.aload_n 0, 1) := by decide +kernel
theorem dX5_allStrands_2 : decode cX5_allStrands 2 = .ok (.getfield 44, 3) := by decide +kernel
theorem dX5_allStrands_5 : decode cX5_allStrands 5 = .ok (.ishl, 1) := by decide +kernel
theorem dX5_allStrands_6 : decode cX5_allStrands 6 = .ok (.iconst 1, 1) := by decide +kernel
theorem dX5_allStrands_7 : decode cX5_allStrands 7 = .ok (.isub, 1) := by decide +kernel
theorem dX5_allStrands_8 : decode cX5_allStrands 8 = .ok (.ireturn, 1) := by decide +kernel
theorem in_X3_readFact_X3 : ∀ w ∈ wsX30, w ∈ wsX3_readFact := fun _ h => List.mem_cons_of_mem _ (List.mem_append_left _ (List.mem_append_right _ h))
theorem in_X3_readFact_X5 : ∀ w ∈ wsX50, w ∈ wsX3_readFact := fun _ h => List.mem_cons_of_mem _ (List.mem_append_right _ h)
theorem in_X5_isPoint_X5 : ∀ w ∈ wsX50, w ∈ wsX5_isPoint := fun _ h => List.mem_cons_of_mem _ (List.mem_append_right _ h)
theorem in_X5_isClaim_X5 : ∀ w ∈ wsX50, w ∈ wsX5_isClaim := fun _ h => List.mem_cons_of_mem _ (List.mem_append_right _ h)
theorem in_X3_mayLead_X3 : ∀ w ∈ wsX30, w ∈ wsX3_mayLead := fun _ h => List.mem_cons_of_mem _ (List.mem_append_left _ (List.mem_append_right _ h))
theorem in_X3_mayLead_X5 : ∀ w ∈ wsX50, w ∈ wsX3_mayLead := fun _ h => List.mem_cons_of_mem _ (List.mem_append_right _ h)
theorem in_X3_pointNamed_X3 : ∀ w ∈ wsX30, w ∈ wsX3_pointNamed := fun _ h => List.mem_cons_of_mem _ (List.mem_append_left _ (List.mem_append_right _ h))
theorem in_X5_addStrand_X5 : ∀ w ∈ wsX50, w ∈ wsX5_addStrand := fun _ h => List.mem_cons_of_mem _ (List.mem_append_right _ h)
theorem in_X3_readStrand_X3 : ∀ w ∈ wsX30, w ∈ wsX3_readStrand := fun _ h => List.mem_cons_of_mem _ (List.mem_append_left _ (List.mem_append_right _ h))
theorem in_X3_readStrand_X5 : ∀ w ∈ wsX50, w ∈ wsX3_readStrand := fun _ h => List.mem_cons_of_mem _ (List.mem_append_right _ h)
theorem in_X3_readLine_X3 : ∀ w ∈ wsX30, w ∈ wsX3_readLine := fun _ h => List.mem_cons_of_mem _ (List.mem_append_left _ (List.mem_append_left _ (List.mem_append_right _ h)))
theorem in_X3_readLine_X5 : ∀ w ∈ wsX50, w ∈ wsX3_readLine := fun _ h => List.mem_cons_of_mem _ (List.mem_append_left _ (List.mem_append_right _ h))
theorem in_X5_clear_X5 : ∀ w ∈ wsX50, w ∈ wsX5_clear := fun _ h => List.mem_cons_of_mem _ (List.mem_append_left _ (List.mem_append_right _ h))
theorem in_X5_clear_X1 : ∀ w ∈ wsX10, w ∈ wsX5_clear := fun _ h => List.mem_cons_of_mem _ (List.mem_append_right _ h)
theorem in_X3_read_X3 : ∀ w ∈ wsX30, w ∈ wsX3_read := fun _ h => List.mem_cons_of_mem _ (List.mem_append_left _ (List.mem_append_left _ (List.mem_append_right _ h)))
theorem in_X5_allStrands_X5 : ∀ w ∈ wsX50, w ∈ wsX5_allStrands := fun _ h => List.mem_cons_of_mem _ (List.mem_append_right _ h)
theorem in_X4_startAs_X5 : ∀ w ∈ wsX50, w ∈ wsX4_startAs := fun _ h => List.mem_cons_of_mem _ (List.mem_append_left _ (List.mem_append_right _ h))
theorem in_X4_startAs_X4 : ∀ w ∈ wsX40, w ∈ wsX4_startAs := fun _ h => List.mem_cons_of_mem _ (List.mem_append_right _ h)
set_option maxHeartbeats 4000000 in
set_option maxRecDepth 100000 in
theorem s_X3_readTerm_7 (l : Launch) (B0 : Nat) (adK adV : Nat → Nat) (D : va_G) (cy : Nat → ClassId) (ad : Nat → Nat) (fr0 : Nat → va_E) (tx : Int32) (rby : Int32) (rnx : Int32) (f : Nat → va_E) (hT : TYx ad cy fr0 tx rby rnx f) (sz : Nat) : TtV l yX3_readTerm wsX3_readTerm 49 1132 [.ref (ad 1), .int 0] B0 adK adV D cy ad f sz (fun (g : Nat → va_E) => True ∧ (∃ (rnx' : Int32), TYx ad cy fr0 tx rby rnx' g)) := by
  refine TtV.of (cc := cX3_readTerm) (maxL := 4) (own := RX3) (by decide) rfl (Nat.le_of_ble_eq_true rfl) rfl ?_
  intro p e s m below meth c A ls hx hb hr hml hts hown hlk hK hE hP hD hS hA hAB hl
  have hl : lv_has ls 4 [(0, .ref (ad 1)), (1, .int 0)] := hl
  refine st0 (fun H locs hP hS => ?_) hP hS
  have j7 : ∀ (N : Nat) (f : Nat → va_E) (H : Heap) (locs : List Loc) (ls : Array Slot) (v7_l2 : Int32) (v7_p_rnx : Int32), (1601 - v7_l2.toInt ≤ (N : Int)) → (0 ≤ v7_l2.toInt ∧ v7_l2.toInt ≤ 1600) → (TYx ad cy fr0 tx rby v7_p_rnx f) → (va_P D vwCl (wl ad f) H) → (va_D A (wl ad f)) → (va_S A s.heap H locs) → (lv_has ls 4 [(2, .int v7_l2), (0, .ref (ad 1)), (1, .int 0)]) → W p l e (rmO 49 1132 0 0) s m ([.ref (ad 1), .int 0] : List Value).toArray below meth c H locs 0 0 (MQ below (va_Qv (fun (g : Nat → va_E) => True ∧ (∃ (rnx' : Int32), TYx ad cy fr0 tx rby rnx' g)) (fun g t => PstT D ad g t) A) ([.ref (ad 1), .int 0] : List Value).toArray s 0 0 A) (F0 m 7 ls []) := by
    intro N
    induction N with
    | zero => intro f H locs ls v7_l2 v7_p_rnx hN hv7_l2 hT hP hD hS hl; exact absurd hN (by omega)
    | succ N ih7 =>
      intro f H locs ls v7_l2 v7_p_rnx hN hv7_l2 hT hP hD hS hl
      have j48 : ∀ (f : Nat → va_E) (H : Heap) (locs : List Loc) (ls : Array Slot), (0 ≤ v7_l2.toInt ∧ v7_l2.toInt ≤ 1599) → (TYx ad cy fr0 tx rby v7_p_rnx f) → (va_P D vwCl (wl ad f) H) → (va_D A (wl ad f)) → (va_S A s.heap H locs) → (lv_has ls 4 [(2, .int v7_l2), (0, .ref (ad 1)), (1, .int 0)]) → W p l e (rmO 49 1132 0 0) s m ([.ref (ad 1), .int 0] : List Value).toArray below meth c H locs 0 0 (MQ below (va_Qv (fun (g : Nat → va_E) => True ∧ (∃ (rnx' : Int32), TYx ad cy fr0 tx rby rnx' g)) (fun g t => PstT D ad g t) A) ([.ref (ad 1), .int 0] : List Value).toArray s 0 0 A) (F0 m 48 ls []) := by
        intro f H locs ls hv48_l2 hT hP hD hS hl
        refine lv_aload_n hx hb dX3_readTerm_48 rfl (lv_at hl 1 rfl) ?_
        obtain ⟨x1, x2, t4, x6, x8, x9, x10, y11, e12, h3, h5, h7⟩ := (show okX3 ad rby v7_p_rnx 1 (f 1) from hT.1 1 (by decide))
        refine va_get (D := D) (cl := vwCl) (ci := 3) (v := .int x9) (C := RX3) (T := TX3) (N := 13) hx hb hts in_X3_readTerm_X3 hown hK hP 1 (wl_at (by decide) e12) rfl 10 (by decide) (hts (.fieldLink RX3 67 "EightReasons$Reader" "kind" "I") (List.mem_of_getElem? (i := 2) rfl)) (fun _ h9 => h9) rfl dX3_readTerm_49 ?_
        refine lv_istore_n (lv' := [(3, .int x9), (2, .int v7_l2), (0, .ref (ad 1)), (1, .int 0)]) hx hb dX3_readTerm_52 rfl hl (by decide) rfl (fun ls hl => ?_)
        refine lv_aload_n hx hb dX3_readTerm_53 rfl (lv_at hl 2 rfl) ?_
        refine tVV (As := []) (rest := []) (i := 1) ⟨hx, hb, hml, hown, hts⟩ hK hE hP hD hS hA hAB (s_X3_advance_0 l B0 adK adV D cy ad fr0 tx rby v7_p_rnx f hT _) (cwV 0 hts gX3_readTerm_X3_advance rfl rfl rfl (by decide +kernel) ⟨Nat.le_of_ble_eq_true rfl, Nat.le_of_ble_eq_true rfl⟩) (by decide) 3 e12 rfl rfl hl.1 rfl (Nat.le_of_ble_eq_true rfl) dX3_readTerm_54 ⟨Nat.le_of_ble_eq_true rfl, Nat.le_of_ble_eq_true rfl⟩ (fun f H locs hw hP hD hS => ?_)
        obtain ⟨hrs, x13, hT⟩ := hw
        refine lv_aload_n hx hb dX3_readTerm_57 rfl (lv_at hl 2 rfl) ?_
        refine lv_iload_n hx hb dX3_readTerm_58 rfl (lv_at hl 3 rfl) ?_
        have ttl_0 := tl_0
        obtain ⟨x14, x15, t17, x19, x21, x22, x23, y24, e25, h16, h18, h20⟩ := (show okX3 ad rby x13 1 (f 1) from hT.1 1 (by decide))
        refine tVV (As := [.int 0]) (rest := []) (i := 1) ⟨hx, hb, hml, hown, hts⟩ hK hE hP hD hS hA hAB (s_X3_readUnit_7 l B0 adK adV D cy ad fr0 tx rby x13 f hT _) (cwV 1 hts gX3_readTerm_X3_readUnit rfl rfl rfl (by decide +kernel) ⟨Nat.le_of_ble_eq_true rfl, Nat.le_of_ble_eq_true rfl⟩) (by decide) 3 e25 rfl rfl hl.1 rfl (Nat.le_of_ble_eq_true rfl) dX3_readTerm_59 ⟨Nat.le_of_ble_eq_true rfl, Nat.le_of_ble_eq_true rfl⟩ (fun f H locs hw hP hD hS => ?_)
        obtain ⟨hrs, x26, hT⟩ := hw
        refine lv_aload_n hx hb dX3_readTerm_62 rfl (lv_at hl 2 rfl) ?_
        obtain ⟨x27, x28, t30, x32, x34, x35, x36, y37, e38, h29, h31, h33⟩ := (show okX3 ad rby x26 1 (f 1) from hT.1 1 (by decide))
        refine va_get (D := D) (cl := vwCl) (ci := 3) (v := .ref (ad t30)) (C := RX3) (T := TX3) (N := 13) hx hb hts in_X3_readTerm_X3 hown hK hP 1 (wl_at (by decide) e38) rfl 4 (by decide) (hts (.fieldLink RX3 22 "EightReasons$Reader" "suit" "LEightReasons$Suit;") (List.mem_of_getElem? (i := 3) rfl)) (fun _ h9 => h9) rfl dX3_readTerm_63 ?_
        obtain ⟨x39, x41, x42, x44, x45, e46, h40, h43⟩ := (ty_suit hT h31)
        refine va_get (D := D) (cl := vwCl) (ci := 5) (v := .ref (ad (t30 + 7))) (C := RX5) (T := TX5) (N := 12) hx hb hts in_X3_readTerm_X5 hown hK hP t30 (wl_at (x_lt (x_suit0 h31)) e46) rfl 11 (by decide) (hts (.fieldLink RX3 191 "EightReasons$Suit" "formula" "LEightReasons$Formula;") (List.mem_of_getElem? (i := 4) rfl)) (fun _ h9 => h9) rfl dX3_readTerm_66 ?_
        refine lv_iload_n hx hb dX3_readTerm_69 rfl (lv_at hl 0 rfl) ?_
        obtain ⟨x47, x49, x50, e52, h48, h51⟩ := (ty_suit7 hT h31)
        refine tVV (As := [.int x9]) (rest := []) (i := (t30 + 7)) ⟨hx, hb, hml, hown, hts⟩ hK hE hP hD hS hA hAB (s_X1_add_0 l B0 adK adV D cy ad fr0 tx rby x26 f hT t30 h31 x9 _) (cwV 1 hts gX3_readTerm_X1_add rfl rfl rfl (by decide +kernel) ⟨Nat.le_of_ble_eq_true rfl, Nat.le_of_ble_eq_true rfl⟩) (x_lt (x_suit h31 (by decide))) 1 e52 rfl rfl hl.1 rfl (Nat.le_of_ble_eq_true rfl) dX3_readTerm_70 ⟨Nat.le_of_ble_eq_true rfl, Nat.le_of_ble_eq_true rfl⟩ (fun f H locs hw hP hD hS => ?_)
        obtain ⟨hrs, hT⟩ := hw
        obtain ⟨x53, ex53⟩ : ∃ q : Int32, q = v7_l2 + Int32.ofInt (1) := ⟨_, rfl⟩
        refine lv_iinc (v := x53) (lv' := [(2, .int x53), (3, .int x9), (0, .ref (ad 1)), (1, .int 0)]) hx hb dX3_readTerm_73 hl (k := 1) rfl ex53.symm (by decide) rfl (fun ls hl => ?_)
        have hx53 := r_inc ex53 (by decide) (by omega) (by omega)
        refine lv_goto (tgt := 7) hx hb dX3_readTerm_76 (by decide) ?_
        exact ih7 f H locs ls x53 x26 (by omega) (by omega) hT hP hD hS (lv_sub hl [0, 2, 3] rfl)
      refine lv_iload_n hx hb dX3_readTerm_7 rfl (lv_at hl 0 rfl) ?_
      refine lv_sipush (v := 1600) hx hb dX3_readTerm_8 (by decide) ?_
      have ttl_1600 := tl_1600
      refine lv_icmp_ge (tgt := 79) hx hb dX3_readTerm_11 (by decide) (fun c54 => ?_) (fun c54 => ?_)
      · have kc54 := c_le c54
        exact tV hx hb hr hlk hP hS ⟨trivial, ⟨v7_p_rnx, hT⟩⟩ dX3_readTerm_79
      · have kc54 := c_nle c54
        refine lv_aload_n hx hb dX3_readTerm_14 rfl (lv_at hl 1 rfl) ?_
        obtain ⟨x55, x56, t58, x60, x62, x63, x64, y65, e66, h57, h59, h61⟩ := (show okX3 ad rby v7_p_rnx 1 (f 1) from hT.1 1 (by decide))
        refine va_get (D := D) (cl := vwCl) (ci := 3) (v := .int x55) (C := RX3) (T := TX3) (N := 13) hx hb hts in_X3_readTerm_X3 hown hK hP 1 (wl_at (by decide) e66) rfl 0 (by decide) (hts (.fieldLink RX3 55 "EightReasons$Reader" "fault" "I") (List.mem_of_getElem? (i := 1) rfl)) (fun _ h9 => h9) rfl dX3_readTerm_15 ?_
        have ttl_0 := tl_0
        refine lv_if_ne (tgt := 79) hx hb dX3_readTerm_18 (by decide) (fun c67 => ?_) (fun c67 => ?_)
        · have kc67 := c_ne c67
          exact tV hx hb hr hlk hP hS ⟨trivial, ⟨v7_p_rnx, hT⟩⟩ dX3_readTerm_79
        · have kc67 := c_eq c67
          refine lv_aload_n hx hb dX3_readTerm_21 rfl (lv_at hl 1 rfl) ?_
          refine va_get (D := D) (cl := vwCl) (ci := 3) (v := .int x63) (C := RX3) (T := TX3) (N := 13) hx hb hts in_X3_readTerm_X3 hown hK hP 1 (wl_at (by decide) e66) rfl 10 (by decide) (hts (.fieldLink RX3 67 "EightReasons$Reader" "kind" "I") (List.mem_of_getElem? (i := 2) rfl)) (fun _ h9 => h9) rfl dX3_readTerm_22 ?_
          refine lv_bipush (v := 42) hx hb dX3_readTerm_25 (by decide) ?_
          have ttl_42 := tl_42
          refine lv_icmp_eq (tgt := 48) hx hb dX3_readTerm_27 (by decide) (fun c68 => ?_) (fun c68 => ?_)
          · have kc68 := c_eq c68
            exact j48 f H locs ls (by omega) hT hP hD hS (lv_sub hl [0, 1, 2] rfl)
          · have kc68 := c_ne c68
            refine lv_aload_n hx hb dX3_readTerm_30 rfl (lv_at hl 1 rfl) ?_
            refine va_get (D := D) (cl := vwCl) (ci := 3) (v := .int x63) (C := RX3) (T := TX3) (N := 13) hx hb hts in_X3_readTerm_X3 hown hK hP 1 (wl_at (by decide) e66) rfl 10 (by decide) (hts (.fieldLink RX3 67 "EightReasons$Reader" "kind" "I") (List.mem_of_getElem? (i := 2) rfl)) (fun _ h9 => h9) rfl dX3_readTerm_31 ?_
            refine lv_bipush (v := 47) hx hb dX3_readTerm_34 (by decide) ?_
            have ttl_47 := tl_47
            refine lv_icmp_eq (tgt := 48) hx hb dX3_readTerm_36 (by decide) (fun c69 => ?_) (fun c69 => ?_)
            · have kc69 := c_eq c69
              exact j48 f H locs ls (by omega) hT hP hD hS (lv_sub hl [0, 1, 2] rfl)
            · have kc69 := c_ne c69
              refine lv_aload_n hx hb dX3_readTerm_39 rfl (lv_at hl 1 rfl) ?_
              refine va_get (D := D) (cl := vwCl) (ci := 3) (v := .int x63) (C := RX3) (T := TX3) (N := 13) hx hb hts in_X3_readTerm_X3 hown hK hP 1 (wl_at (by decide) e66) rfl 10 (by decide) (hts (.fieldLink RX3 67 "EightReasons$Reader" "kind" "I") (List.mem_of_getElem? (i := 2) rfl)) (fun _ h9 => h9) rfl dX3_readTerm_40 ?_
              refine lv_bipush (v := 37) hx hb dX3_readTerm_43 (by decide) ?_
              have ttl_37 := tl_37
              refine lv_icmp_ne (tgt := 79) hx hb dX3_readTerm_45 (by decide) (fun c70 => ?_) (fun c70 => ?_)
              · have kc70 := c_ne c70
                exact tV hx hb hr hlk hP hS ⟨trivial, ⟨v7_p_rnx, hT⟩⟩ dX3_readTerm_79
              · have kc70 := c_eq c70
                exact j48 f H locs ls (by omega) hT hP hD hS (lv_sub hl [0, 1, 2] rfl)
  refine lv_aload_n hx hb dX3_readTerm_0 rfl (lv_at hl 0 rfl) ?_
  refine lv_iload_n hx hb dX3_readTerm_1 rfl (lv_at hl 1 rfl) ?_
  have ttl_0 := tl_0
  obtain ⟨x71, x72, t74, x76, x78, x79, x80, y81, e82, h73, h75, h77⟩ := (show okX3 ad rby rnx 1 (f 1) from hT.1 1 (by decide))
  refine tVV (As := [.int 0]) (rest := []) (i := 1) ⟨hx, hb, hml, hown, hts⟩ hK hE hP hD hS hA hAB (s_X3_readUnit_7 l B0 adK adV D cy ad fr0 tx rby rnx f hT _) (cwV 1 hts gX3_readTerm_X3_readUnit rfl rfl rfl (by decide +kernel) ⟨Nat.le_of_ble_eq_true rfl, Nat.le_of_ble_eq_true rfl⟩) (by decide) 3 e82 rfl rfl hl.1 rfl (Nat.le_of_ble_eq_true rfl) dX3_readTerm_2 ⟨Nat.le_of_ble_eq_true rfl, Nat.le_of_ble_eq_true rfl⟩ (fun f H locs hw hP hD hS => ?_)
  obtain ⟨hrs, x83, hT⟩ := hw
  refine lv_iconst (v := 0) hx hb dX3_readTerm_5 (by decide) ?_
  refine lv_istore_n (lv' := [(2, .int 0), (0, .ref (ad 1)), (1, .int 0)]) hx hb dX3_readTerm_6 rfl hl (by decide) rfl (fun ls hl => ?_)
  exact j7 (Int.toNat (1601 - (0 : Int32).toInt)) f H locs ls (0 : Int32) x83 (by omega) (by omega) hT hP hD hS (lv_sub hl [0, 1, 2] rfl)
set_option maxHeartbeats 4000000 in
set_option maxRecDepth 100000 in
theorem s_X3_readSum_7 (l : Launch) (B0 : Nat) (adK adV : Nat → Nat) (D : va_G) (cy : Nat → ClassId) (ad : Nat → Nat) (fr0 : Nat → va_E) (tx : Int32) (rby : Int32) (rnx : Int32) (f : Nat → va_E) (hT : TYx ad cy fr0 tx rby rnx f) (sz : Nat) : TtV l yX3_readSum wsX3_readSum 50 1155 [.ref (ad 1), .int 0] B0 adK adV D cy ad f sz (fun (g : Nat → va_E) => True ∧ (∃ (rnx' : Int32), TYx ad cy fr0 tx rby rnx' g)) := by
  refine TtV.of (cc := cX3_readSum) (maxL := 4) (own := RX3) (by decide) rfl (Nat.le_of_ble_eq_true rfl) rfl ?_
  intro p e s m below meth c A ls hx hb hr hml hts hown hlk hK hE hP hD hS hA hAB hl
  have hl : lv_has ls 4 [(0, .ref (ad 1)), (1, .int 0)] := hl
  refine st0 (fun H locs hP hS => ?_) hP hS
  have j7 : ∀ (N : Nat) (f : Nat → va_E) (H : Heap) (locs : List Loc) (ls : Array Slot) (v7_l2 : Int32) (v7_p_rnx : Int32), (1601 - v7_l2.toInt ≤ (N : Int)) → (0 ≤ v7_l2.toInt ∧ v7_l2.toInt ≤ 1600) → (TYx ad cy fr0 tx rby v7_p_rnx f) → (va_P D vwCl (wl ad f) H) → (va_D A (wl ad f)) → (va_S A s.heap H locs) → (lv_has ls 4 [(2, .int v7_l2), (0, .ref (ad 1)), (1, .int 0)]) → W p l e (rmO 50 1155 0 0) s m ([.ref (ad 1), .int 0] : List Value).toArray below meth c H locs 0 0 (MQ below (va_Qv (fun (g : Nat → va_E) => True ∧ (∃ (rnx' : Int32), TYx ad cy fr0 tx rby rnx' g)) (fun g t => PstT D ad g t) A) ([.ref (ad 1), .int 0] : List Value).toArray s 0 0 A) (F0 m 7 ls []) := by
    intro N
    induction N with
    | zero => intro f H locs ls v7_l2 v7_p_rnx hN hv7_l2 hT hP hD hS hl; exact absurd hN (by omega)
    | succ N ih7 =>
      intro f H locs ls v7_l2 v7_p_rnx hN hv7_l2 hT hP hD hS hl
      have j39 : ∀ (f : Nat → va_E) (H : Heap) (locs : List Loc) (ls : Array Slot), (0 ≤ v7_l2.toInt ∧ v7_l2.toInt ≤ 1599) → (TYx ad cy fr0 tx rby v7_p_rnx f) → (va_P D vwCl (wl ad f) H) → (va_D A (wl ad f)) → (va_S A s.heap H locs) → (lv_has ls 4 [(2, .int v7_l2), (0, .ref (ad 1)), (1, .int 0)]) → W p l e (rmO 50 1155 0 0) s m ([.ref (ad 1), .int 0] : List Value).toArray below meth c H locs 0 0 (MQ below (va_Qv (fun (g : Nat → va_E) => True ∧ (∃ (rnx' : Int32), TYx ad cy fr0 tx rby rnx' g)) (fun g t => PstT D ad g t) A) ([.ref (ad 1), .int 0] : List Value).toArray s 0 0 A) (F0 m 39 ls []) := by
        intro f H locs ls hv39_l2 hT hP hD hS hl
        refine lv_aload_n hx hb dX3_readSum_39 rfl (lv_at hl 1 rfl) ?_
        obtain ⟨x1, x2, t4, x6, x8, x9, x10, y11, e12, h3, h5, h7⟩ := (show okX3 ad rby v7_p_rnx 1 (f 1) from hT.1 1 (by decide))
        refine va_get (D := D) (cl := vwCl) (ci := 3) (v := .int x9) (C := RX3) (T := TX3) (N := 13) hx hb hts in_X3_readSum_X3 hown hK hP 1 (wl_at (by decide) e12) rfl 10 (by decide) (hts (.fieldLink RX3 67 "EightReasons$Reader" "kind" "I") (List.mem_of_getElem? (i := 2) rfl)) (fun _ h9 => h9) rfl dX3_readSum_40 ?_
        refine lv_istore_n (lv' := [(3, .int x9), (2, .int v7_l2), (0, .ref (ad 1)), (1, .int 0)]) hx hb dX3_readSum_43 rfl hl (by decide) rfl (fun ls hl => ?_)
        refine lv_aload_n hx hb dX3_readSum_44 rfl (lv_at hl 2 rfl) ?_
        refine tVV (As := []) (rest := []) (i := 1) ⟨hx, hb, hml, hown, hts⟩ hK hE hP hD hS hA hAB (s_X3_advance_0 l B0 adK adV D cy ad fr0 tx rby v7_p_rnx f hT _) (cwV 0 hts gX3_readSum_X3_advance rfl rfl rfl (by decide +kernel) ⟨Nat.le_of_ble_eq_true rfl, Nat.le_of_ble_eq_true rfl⟩) (by decide) 3 e12 rfl rfl hl.1 rfl (Nat.le_of_ble_eq_true rfl) dX3_readSum_45 ⟨Nat.le_of_ble_eq_true rfl, Nat.le_of_ble_eq_true rfl⟩ (fun f H locs hw hP hD hS => ?_)
        obtain ⟨hrs, x13, hT⟩ := hw
        refine lv_aload_n hx hb dX3_readSum_48 rfl (lv_at hl 2 rfl) ?_
        refine lv_iload_n hx hb dX3_readSum_49 rfl (lv_at hl 3 rfl) ?_
        have ttl_0 := tl_0
        obtain ⟨x14, x15, t17, x19, x21, x22, x23, y24, e25, h16, h18, h20⟩ := (show okX3 ad rby x13 1 (f 1) from hT.1 1 (by decide))
        refine tVV (As := [.int 0]) (rest := []) (i := 1) ⟨hx, hb, hml, hown, hts⟩ hK hE hP hD hS hA hAB (s_X3_readTerm_7 l B0 adK adV D cy ad fr0 tx rby x13 f hT _) (cwV 1 hts gX3_readSum_X3_readTerm rfl rfl rfl (by decide +kernel) ⟨Nat.le_of_ble_eq_true rfl, Nat.le_of_ble_eq_true rfl⟩) (by decide) 3 e25 rfl rfl hl.1 rfl (Nat.le_of_ble_eq_true rfl) dX3_readSum_50 ⟨Nat.le_of_ble_eq_true rfl, Nat.le_of_ble_eq_true rfl⟩ (fun f H locs hw hP hD hS => ?_)
        obtain ⟨hrs, x26, hT⟩ := hw
        refine lv_aload_n hx hb dX3_readSum_53 rfl (lv_at hl 2 rfl) ?_
        obtain ⟨x27, x28, t30, x32, x34, x35, x36, y37, e38, h29, h31, h33⟩ := (show okX3 ad rby x26 1 (f 1) from hT.1 1 (by decide))
        refine va_get (D := D) (cl := vwCl) (ci := 3) (v := .ref (ad t30)) (C := RX3) (T := TX3) (N := 13) hx hb hts in_X3_readSum_X3 hown hK hP 1 (wl_at (by decide) e38) rfl 4 (by decide) (hts (.fieldLink RX3 22 "EightReasons$Reader" "suit" "LEightReasons$Suit;") (List.mem_of_getElem? (i := 3) rfl)) (fun _ h9 => h9) rfl dX3_readSum_54 ?_
        obtain ⟨x39, x41, x42, x44, x45, e46, h40, h43⟩ := (ty_suit hT h31)
        refine va_get (D := D) (cl := vwCl) (ci := 5) (v := .ref (ad (t30 + 7))) (C := RX5) (T := TX5) (N := 12) hx hb hts in_X3_readSum_X5 hown hK hP t30 (wl_at (x_lt (x_suit0 h31)) e46) rfl 11 (by decide) (hts (.fieldLink RX3 191 "EightReasons$Suit" "formula" "LEightReasons$Formula;") (List.mem_of_getElem? (i := 4) rfl)) (fun _ h9 => h9) rfl dX3_readSum_57 ?_
        refine lv_iload_n hx hb dX3_readSum_60 rfl (lv_at hl 0 rfl) ?_
        obtain ⟨x47, x49, x50, e52, h48, h51⟩ := (ty_suit7 hT h31)
        refine tVV (As := [.int x9]) (rest := []) (i := (t30 + 7)) ⟨hx, hb, hml, hown, hts⟩ hK hE hP hD hS hA hAB (s_X1_add_0 l B0 adK adV D cy ad fr0 tx rby x26 f hT t30 h31 x9 _) (cwV 1 hts gX3_readSum_X1_add rfl rfl rfl (by decide +kernel) ⟨Nat.le_of_ble_eq_true rfl, Nat.le_of_ble_eq_true rfl⟩) (x_lt (x_suit h31 (by decide))) 1 e52 rfl rfl hl.1 rfl (Nat.le_of_ble_eq_true rfl) dX3_readSum_61 ⟨Nat.le_of_ble_eq_true rfl, Nat.le_of_ble_eq_true rfl⟩ (fun f H locs hw hP hD hS => ?_)
        obtain ⟨hrs, hT⟩ := hw
        obtain ⟨x53, ex53⟩ : ∃ q : Int32, q = v7_l2 + Int32.ofInt (1) := ⟨_, rfl⟩
        refine lv_iinc (v := x53) (lv' := [(2, .int x53), (3, .int x9), (0, .ref (ad 1)), (1, .int 0)]) hx hb dX3_readSum_64 hl (k := 1) rfl ex53.symm (by decide) rfl (fun ls hl => ?_)
        have hx53 := r_inc ex53 (by decide) (by omega) (by omega)
        refine lv_goto (tgt := 7) hx hb dX3_readSum_67 (by decide) ?_
        exact ih7 f H locs ls x53 x26 (by omega) (by omega) hT hP hD hS (lv_sub hl [0, 2, 3] rfl)
      refine lv_iload_n hx hb dX3_readSum_7 rfl (lv_at hl 0 rfl) ?_
      refine lv_sipush (v := 1600) hx hb dX3_readSum_8 (by decide) ?_
      have ttl_1600 := tl_1600
      refine lv_icmp_ge (tgt := 70) hx hb dX3_readSum_11 (by decide) (fun c54 => ?_) (fun c54 => ?_)
      · have kc54 := c_le c54
        exact tV hx hb hr hlk hP hS ⟨trivial, ⟨v7_p_rnx, hT⟩⟩ dX3_readSum_70
      · have kc54 := c_nle c54
        refine lv_aload_n hx hb dX3_readSum_14 rfl (lv_at hl 1 rfl) ?_
        obtain ⟨x55, x56, t58, x60, x62, x63, x64, y65, e66, h57, h59, h61⟩ := (show okX3 ad rby v7_p_rnx 1 (f 1) from hT.1 1 (by decide))
        refine va_get (D := D) (cl := vwCl) (ci := 3) (v := .int x55) (C := RX3) (T := TX3) (N := 13) hx hb hts in_X3_readSum_X3 hown hK hP 1 (wl_at (by decide) e66) rfl 0 (by decide) (hts (.fieldLink RX3 55 "EightReasons$Reader" "fault" "I") (List.mem_of_getElem? (i := 1) rfl)) (fun _ h9 => h9) rfl dX3_readSum_15 ?_
        have ttl_0 := tl_0
        refine lv_if_ne (tgt := 70) hx hb dX3_readSum_18 (by decide) (fun c67 => ?_) (fun c67 => ?_)
        · have kc67 := c_ne c67
          exact tV hx hb hr hlk hP hS ⟨trivial, ⟨v7_p_rnx, hT⟩⟩ dX3_readSum_70
        · have kc67 := c_eq c67
          refine lv_aload_n hx hb dX3_readSum_21 rfl (lv_at hl 1 rfl) ?_
          refine va_get (D := D) (cl := vwCl) (ci := 3) (v := .int x63) (C := RX3) (T := TX3) (N := 13) hx hb hts in_X3_readSum_X3 hown hK hP 1 (wl_at (by decide) e66) rfl 10 (by decide) (hts (.fieldLink RX3 67 "EightReasons$Reader" "kind" "I") (List.mem_of_getElem? (i := 2) rfl)) (fun _ h9 => h9) rfl dX3_readSum_22 ?_
          refine lv_bipush (v := 43) hx hb dX3_readSum_25 (by decide) ?_
          have ttl_43 := tl_43
          refine lv_icmp_eq (tgt := 39) hx hb dX3_readSum_27 (by decide) (fun c68 => ?_) (fun c68 => ?_)
          · have kc68 := c_eq c68
            exact j39 f H locs ls (by omega) hT hP hD hS (lv_sub hl [0, 1, 2] rfl)
          · have kc68 := c_ne c68
            refine lv_aload_n hx hb dX3_readSum_30 rfl (lv_at hl 1 rfl) ?_
            refine va_get (D := D) (cl := vwCl) (ci := 3) (v := .int x63) (C := RX3) (T := TX3) (N := 13) hx hb hts in_X3_readSum_X3 hown hK hP 1 (wl_at (by decide) e66) rfl 10 (by decide) (hts (.fieldLink RX3 67 "EightReasons$Reader" "kind" "I") (List.mem_of_getElem? (i := 2) rfl)) (fun _ h9 => h9) rfl dX3_readSum_31 ?_
            refine lv_bipush (v := 45) hx hb dX3_readSum_34 (by decide) ?_
            have ttl_45 := tl_45
            refine lv_icmp_ne (tgt := 70) hx hb dX3_readSum_36 (by decide) (fun c69 => ?_) (fun c69 => ?_)
            · have kc69 := c_ne c69
              exact tV hx hb hr hlk hP hS ⟨trivial, ⟨v7_p_rnx, hT⟩⟩ dX3_readSum_70
            · have kc69 := c_eq c69
              exact j39 f H locs ls (by omega) hT hP hD hS (lv_sub hl [0, 1, 2] rfl)
  refine lv_aload_n hx hb dX3_readSum_0 rfl (lv_at hl 0 rfl) ?_
  refine lv_iload_n hx hb dX3_readSum_1 rfl (lv_at hl 1 rfl) ?_
  have ttl_0 := tl_0
  obtain ⟨x70, x71, t73, x75, x77, x78, x79, y80, e81, h72, h74, h76⟩ := (show okX3 ad rby rnx 1 (f 1) from hT.1 1 (by decide))
  refine tVV (As := [.int 0]) (rest := []) (i := 1) ⟨hx, hb, hml, hown, hts⟩ hK hE hP hD hS hA hAB (s_X3_readTerm_7 l B0 adK adV D cy ad fr0 tx rby rnx f hT _) (cwV 1 hts gX3_readSum_X3_readTerm rfl rfl rfl (by decide +kernel) ⟨Nat.le_of_ble_eq_true rfl, Nat.le_of_ble_eq_true rfl⟩) (by decide) 3 e81 rfl rfl hl.1 rfl (Nat.le_of_ble_eq_true rfl) dX3_readSum_2 ⟨Nat.le_of_ble_eq_true rfl, Nat.le_of_ble_eq_true rfl⟩ (fun f H locs hw hP hD hS => ?_)
  obtain ⟨hrs, x82, hT⟩ := hw
  refine lv_iconst (v := 0) hx hb dX3_readSum_5 (by decide) ?_
  refine lv_istore_n (lv' := [(2, .int 0), (0, .ref (ad 1)), (1, .int 0)]) hx hb dX3_readSum_6 rfl hl (by decide) rfl (fun ls hl => ?_)
  exact j7 (Int.toNat (1601 - (0 : Int32).toInt)) f H locs ls (0 : Int32) x82 (by omega) (by omega) hT hP hD hS (lv_sub hl [0, 1, 2] rfl)
set_option maxHeartbeats 4000000 in
set_option maxRecDepth 100000 in
theorem s_X3_readOne_7 (l : Launch) (B0 : Nat) (adK adV : Nat → Nat) (D : va_G) (cy : Nat → ClassId) (ad : Nat → Nat) (fr0 : Nat → va_E) (tx : Int32) (rby : Int32) (rnx : Int32) (f : Nat → va_E) (hT : TYx ad cy fr0 tx rby rnx f) (sz : Nat) : TtV l yX3_readOne wsX3_readOne 51 1178 [.ref (ad 1), .int 0] B0 adK adV D cy ad f sz (fun (g : Nat → va_E) => True ∧ (∃ (rnx' : Int32), TYx ad cy fr0 tx rby rnx' g)) := by
  refine TtV.of (cc := cX3_readOne) (maxL := 3) (own := RX3) (by decide) rfl (Nat.le_of_ble_eq_true rfl) rfl ?_
  intro p e s m below meth c A ls hx hb hr hml hts hown hlk hK hE hP hD hS hA hAB hl
  have hl : lv_has ls 3 [(0, .ref (ad 1)), (1, .int 0)] := hl
  refine st0 (fun H locs hP hS => ?_) hP hS
  have j86 : ∀ (f : Nat → va_E) (H : Heap) (locs : List Loc) (ls : Array Slot) (v86_p_rnx : Int32), (TYx ad cy fr0 tx rby v86_p_rnx f) → (va_P D vwCl (wl ad f) H) → (va_D A (wl ad f)) → (va_S A s.heap H locs) → (lv_has ls 3 [(0, .ref (ad 1)), (1, .int 0)]) → W p l e (rmO 51 1178 0 0) s m ([.ref (ad 1), .int 0] : List Value).toArray below meth c H locs 0 0 (MQ below (va_Qv (fun (g : Nat → va_E) => True ∧ (∃ (rnx' : Int32), TYx ad cy fr0 tx rby rnx' g)) (fun g t => PstT D ad g t) A) ([.ref (ad 1), .int 0] : List Value).toArray s 0 0 A) (F0 m 86 ls []) := by
    intro f H locs ls v86_p_rnx hT hP hD hS hl
    refine lv_aload_n hx hb dX3_readOne_86 rfl (lv_at hl 0 rfl) ?_
    obtain ⟨x1, x2, t4, x6, x8, x9, x10, y11, e12, h3, h5, h7⟩ := (show okX3 ad rby v86_p_rnx 1 (f 1) from hT.1 1 (by decide))
    refine va_get (D := D) (cl := vwCl) (ci := 3) (v := .int x9) (C := RX3) (T := TX3) (N := 13) hx hb hts in_X3_readOne_X3 hown hK hP 1 (wl_at (by decide) e12) rfl 10 (by decide) (hts (.fieldLink RX3 67 "EightReasons$Reader" "kind" "I") (List.mem_of_getElem? (i := 1) rfl)) (fun _ h9 => h9) rfl dX3_readOne_87 ?_
    refine lv_istore_n (lv' := [(2, .int x9), (0, .ref (ad 1)), (1, .int 0)]) hx hb dX3_readOne_90 rfl hl (by decide) rfl (fun ls hl => ?_)
    refine lv_aload_n hx hb dX3_readOne_91 rfl (lv_at hl 1 rfl) ?_
    refine tVV (As := []) (rest := []) (i := 1) ⟨hx, hb, hml, hown, hts⟩ hK hE hP hD hS hA hAB (s_X3_advance_0 l B0 adK adV D cy ad fr0 tx rby v86_p_rnx f hT _) (cwV 0 hts gX3_readOne_X3_advance rfl rfl rfl (by decide +kernel) ⟨Nat.le_of_ble_eq_true rfl, Nat.le_of_ble_eq_true rfl⟩) (by decide) 3 e12 rfl rfl hl.1 rfl (Nat.le_of_ble_eq_true rfl) dX3_readOne_92 ⟨Nat.le_of_ble_eq_true rfl, Nat.le_of_ble_eq_true rfl⟩ (fun f H locs hw hP hD hS => ?_)
    obtain ⟨hrs, x13, hT⟩ := hw
    refine lv_aload_n hx hb dX3_readOne_95 rfl (lv_at hl 1 rfl) ?_
    refine lv_iload_n hx hb dX3_readOne_96 rfl (lv_at hl 2 rfl) ?_
    have ttl_0 := tl_0
    obtain ⟨x14, x15, t17, x19, x21, x22, x23, y24, e25, h16, h18, h20⟩ := (show okX3 ad rby x13 1 (f 1) from hT.1 1 (by decide))
    refine tVV (As := [.int 0]) (rest := []) (i := 1) ⟨hx, hb, hml, hown, hts⟩ hK hE hP hD hS hA hAB (s_X3_readSum_7 l B0 adK adV D cy ad fr0 tx rby x13 f hT _) (cwV 1 hts gX3_readOne_X3_readSum rfl rfl rfl (by decide +kernel) ⟨Nat.le_of_ble_eq_true rfl, Nat.le_of_ble_eq_true rfl⟩) (by decide) 3 e25 rfl rfl hl.1 rfl (Nat.le_of_ble_eq_true rfl) dX3_readOne_97 ⟨Nat.le_of_ble_eq_true rfl, Nat.le_of_ble_eq_true rfl⟩ (fun f H locs hw hP hD hS => ?_)
    obtain ⟨hrs, x26, hT⟩ := hw
    refine lv_aload_n hx hb dX3_readOne_100 rfl (lv_at hl 1 rfl) ?_
    obtain ⟨x27, x28, t30, x32, x34, x35, x36, y37, e38, h29, h31, h33⟩ := (show okX3 ad rby x26 1 (f 1) from hT.1 1 (by decide))
    refine va_get (D := D) (cl := vwCl) (ci := 3) (v := .ref (ad t30)) (C := RX3) (T := TX3) (N := 13) hx hb hts in_X3_readOne_X3 hown hK hP 1 (wl_at (by decide) e38) rfl 4 (by decide) (hts (.fieldLink RX3 22 "EightReasons$Reader" "suit" "LEightReasons$Suit;") (List.mem_of_getElem? (i := 2) rfl)) (fun _ h9 => h9) rfl dX3_readOne_101 ?_
    obtain ⟨x39, x41, x42, x44, x45, e46, h40, h43⟩ := (ty_suit hT h31)
    refine va_get (D := D) (cl := vwCl) (ci := 5) (v := .ref (ad (t30 + 7))) (C := RX5) (T := TX5) (N := 12) hx hb hts in_X3_readOne_X5 hown hK hP t30 (wl_at (x_lt (x_suit0 h31)) e46) rfl 11 (by decide) (hts (.fieldLink RX3 191 "EightReasons$Suit" "formula" "LEightReasons$Formula;") (List.mem_of_getElem? (i := 3) rfl)) (fun _ h9 => h9) rfl dX3_readOne_104 ?_
    refine lv_iload_n hx hb dX3_readOne_107 rfl (lv_at hl 0 rfl) ?_
    obtain ⟨x47, x49, x50, e52, h48, h51⟩ := (ty_suit7 hT h31)
    refine tVV (As := [.int x9]) (rest := []) (i := (t30 + 7)) ⟨hx, hb, hml, hown, hts⟩ hK hE hP hD hS hA hAB (s_X1_add_0 l B0 adK adV D cy ad fr0 tx rby x26 f hT t30 h31 x9 _) (cwV 1 hts gX3_readOne_X1_add rfl rfl rfl (by decide +kernel) ⟨Nat.le_of_ble_eq_true rfl, Nat.le_of_ble_eq_true rfl⟩) (x_lt (x_suit h31 (by decide))) 1 e52 rfl rfl hl.1 rfl (Nat.le_of_ble_eq_true rfl) dX3_readOne_108 ⟨Nat.le_of_ble_eq_true rfl, Nat.le_of_ble_eq_true rfl⟩ (fun f H locs hw hP hD hS => ?_)
    obtain ⟨hrs, hT⟩ := hw
    exact tV hx hb hr hlk hP hS ⟨trivial, ⟨x26, hT⟩⟩ dX3_readOne_111
  refine lv_aload_n hx hb dX3_readOne_0 rfl (lv_at hl 0 rfl) ?_
  obtain ⟨x53, x54, t56, x58, x60, x61, x62, y63, e64, h55, h57, h59⟩ := (show okX3 ad rby rnx 1 (f 1) from hT.1 1 (by decide))
  refine va_get (D := D) (cl := vwCl) (ci := 3) (v := .int x61) (C := RX3) (T := TX3) (N := 13) hx hb hts in_X3_readOne_X3 hown hK hP 1 (wl_at (by decide) e64) rfl 10 (by decide) (hts (.fieldLink RX3 67 "EightReasons$Reader" "kind" "I") (List.mem_of_getElem? (i := 1) rfl)) (fun _ h9 => h9) rfl dX3_readOne_1 ?_
  refine lv_bipush (v := 10) hx hb dX3_readOne_4 (by decide) ?_
  have ttl_10 := tl_10
  refine lv_icmp_ne (tgt := 47) hx hb dX3_readOne_6 (by decide) (fun c65 => ?_) (fun c65 => ?_)
  · have kc65 := c_ne c65
    refine lv_aload_n hx hb dX3_readOne_47 rfl (lv_at hl 0 rfl) ?_
    refine lv_iload_n hx hb dX3_readOne_48 rfl (lv_at hl 1 rfl) ?_
    have ttl_0 := tl_0
    refine tVV (As := [.int 0]) (rest := []) (i := 1) ⟨hx, hb, hml, hown, hts⟩ hK hE hP hD hS hA hAB (s_X3_readSum_7 l B0 adK adV D cy ad fr0 tx rby rnx f hT _) (cwV 1 hts gX3_readOne_X3_readSum rfl rfl rfl (by decide +kernel) ⟨Nat.le_of_ble_eq_true rfl, Nat.le_of_ble_eq_true rfl⟩) (by decide) 3 e64 rfl rfl hl.1 rfl (Nat.le_of_ble_eq_true rfl) dX3_readOne_49 ⟨Nat.le_of_ble_eq_true rfl, Nat.le_of_ble_eq_true rfl⟩ (fun f H locs hw hP hD hS => ?_)
    obtain ⟨hrs, x66, hT⟩ := hw
    refine lv_aload_n hx hb dX3_readOne_52 rfl (lv_at hl 0 rfl) ?_
    obtain ⟨x67, x68, t70, x72, x74, x75, x76, y77, e78, h69, h71, h73⟩ := (show okX3 ad rby x66 1 (f 1) from hT.1 1 (by decide))
    refine va_get (D := D) (cl := vwCl) (ci := 3) (v := .int x67) (C := RX3) (T := TX3) (N := 13) hx hb hts in_X3_readOne_X3 hown hK hP 1 (wl_at (by decide) e78) rfl 0 (by decide) (hts (.fieldLink RX3 55 "EightReasons$Reader" "fault" "I") (List.mem_of_getElem? (i := 4) rfl)) (fun _ h9 => h9) rfl dX3_readOne_53 ?_
    refine lv_if_ne (tgt := 111) hx hb dX3_readOne_56 (by decide) (fun c79 => ?_) (fun c79 => ?_)
    · have kc79 := c_ne c79
      exact tV hx hb hr hlk hP hS ⟨trivial, ⟨x66, hT⟩⟩ dX3_readOne_111
    · have kc79 := c_eq c79
      refine lv_aload_n hx hb dX3_readOne_59 rfl (lv_at hl 0 rfl) ?_
      refine va_get (D := D) (cl := vwCl) (ci := 3) (v := .int x75) (C := RX3) (T := TX3) (N := 13) hx hb hts in_X3_readOne_X3 hown hK hP 1 (wl_at (by decide) e78) rfl 10 (by decide) (hts (.fieldLink RX3 67 "EightReasons$Reader" "kind" "I") (List.mem_of_getElem? (i := 1) rfl)) (fun _ h9 => h9) rfl dX3_readOne_60 ?_
      refine lv_bipush (v := 60) hx hb dX3_readOne_63 (by decide) ?_
      have ttl_60 := tl_60
      refine lv_icmp_eq (tgt := 86) hx hb dX3_readOne_65 (by decide) (fun c80 => ?_) (fun c80 => ?_)
      · have kc80 := c_eq c80
        exact j86 f H locs ls x66 hT hP hD hS (lv_sub hl [0, 1] rfl)
      · have kc80 := c_ne c80
        refine lv_aload_n hx hb dX3_readOne_68 rfl (lv_at hl 0 rfl) ?_
        refine va_get (D := D) (cl := vwCl) (ci := 3) (v := .int x75) (C := RX3) (T := TX3) (N := 13) hx hb hts in_X3_readOne_X3 hown hK hP 1 (wl_at (by decide) e78) rfl 10 (by decide) (hts (.fieldLink RX3 67 "EightReasons$Reader" "kind" "I") (List.mem_of_getElem? (i := 1) rfl)) (fun _ h9 => h9) rfl dX3_readOne_69 ?_
        refine lv_bipush (v := 62) hx hb dX3_readOne_72 (by decide) ?_
        have ttl_62 := tl_62
        refine lv_icmp_eq (tgt := 86) hx hb dX3_readOne_74 (by decide) (fun c81 => ?_) (fun c81 => ?_)
        · have kc81 := c_eq c81
          exact j86 f H locs ls x66 hT hP hD hS (lv_sub hl [0, 1] rfl)
        · have kc81 := c_ne c81
          refine lv_aload_n hx hb dX3_readOne_77 rfl (lv_at hl 0 rfl) ?_
          refine va_get (D := D) (cl := vwCl) (ci := 3) (v := .int x75) (C := RX3) (T := TX3) (N := 13) hx hb hts in_X3_readOne_X3 hown hK hP 1 (wl_at (by decide) e78) rfl 10 (by decide) (hts (.fieldLink RX3 67 "EightReasons$Reader" "kind" "I") (List.mem_of_getElem? (i := 1) rfl)) (fun _ h9 => h9) rfl dX3_readOne_78 ?_
          refine lv_bipush (v := 61) hx hb dX3_readOne_81 (by decide) ?_
          have ttl_61 := tl_61
          refine lv_icmp_ne (tgt := 111) hx hb dX3_readOne_83 (by decide) (fun c82 => ?_) (fun c82 => ?_)
          · have kc82 := c_ne c82
            exact tV hx hb hr hlk hP hS ⟨trivial, ⟨x66, hT⟩⟩ dX3_readOne_111
          · have kc82 := c_eq c82
            exact j86 f H locs ls x66 hT hP hD hS (lv_sub hl [0, 1] rfl)
  · have kc65 := c_eq c65
    refine lv_aload_n hx hb dX3_readOne_9 rfl (lv_at hl 0 rfl) ?_
    refine lv_iload_n hx hb dX3_readOne_10 rfl (lv_at hl 1 rfl) ?_
    refine lv_bipush (v := 7) hx hb dX3_readOne_11 (by decide) ?_
    refine lv_icmp_ge (tgt := 20) hx hb dX3_readOne_13 (by decide) (fun c => absurd c (by decide)) (fun _ => ?_)
    refine lv_iconst (v := 1) hx hb dX3_readOne_16 (by decide) ?_
    refine lv_goto (tgt := 21) hx hb dX3_readOne_17 (by decide) ?_
    have ttl_1 := tl_1
    refine tVI (As := [.int 1]) (rest := []) (i := 1) ⟨hx, hb, hml, hown, hts⟩ hK hE hP hD hS hA hAB (s_X3_begin_0 l B0 adK adV D cy ad fr0 tx rby rnx f hT (1 : Int32) (by omega) _) (cwV 1 hts gX3_readOne_X3_begin rfl rfl rfl (by decide +kernel) ⟨Nat.le_of_ble_eq_true rfl, Nat.le_of_ble_eq_true rfl⟩) (by decide) 3 e64 rfl rfl hl.1 rfl (Nat.le_of_ble_eq_true rfl) dX3_readOne_21 ⟨Nat.le_of_ble_eq_true rfl, Nat.le_of_ble_eq_true rfl⟩ (fun r f H locs hw hP hD hS => ?_)
    obtain ⟨hrs, x83, hT⟩ := hw
    obtain ⟨x84, rfl⟩ : ∃ q, q = r := ⟨_, rfl⟩
    rcases hrs with ⟨rfl, h85⟩ | ⟨rfl, h86⟩
    · refine lv_if_eq (tgt := 46) hx hb dX3_readOne_24 (by decide) (fun c => absurd c (by decide)) (fun _ => ?_)
      refine lv_aload_n hx hb dX3_readOne_27 rfl (lv_at hl 0 rfl) ?_
      refine lv_iload_n hx hb dX3_readOne_28 rfl (lv_at hl 1 rfl) ?_
      refine lv_iconst (v := 1) hx hb dX3_readOne_29 (by decide) ?_
      refine lv_iadd hx hb dX3_readOne_30 (tpi (v := 1) (by decide) ?_)
      obtain ⟨x87, x88, t90, x92, x94, x95, x96, y97, e98, h89, h91, h93⟩ := (show okX3 ad rby x83 1 (f 1) from hT.1 1 (by decide))
      refine tVV (As := [.int 1]) (rest := []) (i := 1) ⟨hx, hb, hml, hown, hts⟩ hK hE hP hD hS hA hAB (s_X3_readOne_6 l B0 adK adV D cy ad fr0 tx rby x83 f hT _) (cwV 1 hts gX3_readOne_X3_readOne rfl rfl rfl (by decide +kernel) ⟨Nat.le_of_ble_eq_true rfl, Nat.le_of_ble_eq_true rfl⟩) (by decide) 3 e98 rfl rfl hl.1 rfl (Nat.le_of_ble_eq_true rfl) dX3_readOne_31 ⟨Nat.le_of_ble_eq_true rfl, Nat.le_of_ble_eq_true rfl⟩ (fun f H locs hw hP hD hS => ?_)
      obtain ⟨hrs, x99, hT⟩ := hw
      refine lv_aload_n hx hb dX3_readOne_34 rfl (lv_at hl 0 rfl) ?_
      obtain ⟨x100, x101, t103, x105, x107, x108, x109, y110, e111, h102, h104, h106⟩ := (show okX3 ad rby x99 1 (f 1) from hT.1 1 (by decide))
      refine va_get (D := D) (cl := vwCl) (ci := 3) (v := .ref (ad t103)) (C := RX3) (T := TX3) (N := 13) hx hb hts in_X3_readOne_X3 hown hK hP 1 (wl_at (by decide) e111) rfl 4 (by decide) (hts (.fieldLink RX3 22 "EightReasons$Reader" "suit" "LEightReasons$Suit;") (List.mem_of_getElem? (i := 2) rfl)) (fun _ h9 => h9) rfl dX3_readOne_35 ?_
      obtain ⟨x112, x114, x115, x117, x118, e119, h113, h116⟩ := (ty_suit hT h104)
      refine va_get (D := D) (cl := vwCl) (ci := 5) (v := .ref (ad (t103 + 7))) (C := RX5) (T := TX5) (N := 12) hx hb hts in_X3_readOne_X5 hown hK hP t103 (wl_at (x_lt (x_suit0 h104)) e119) rfl 11 (by decide) (hts (.fieldLink RX3 191 "EightReasons$Suit" "formula" "LEightReasons$Formula;") (List.mem_of_getElem? (i := 3) rfl)) (fun _ h9 => h9) rfl dX3_readOne_38 ?_
      refine lv_bipush (v := 10) hx hb dX3_readOne_41 (by decide) ?_
      obtain ⟨x120, x122, x123, e125, h121, h124⟩ := (ty_suit7 hT h104)
      refine tVV (As := [.int 10]) (rest := []) (i := (t103 + 7)) ⟨hx, hb, hml, hown, hts⟩ hK hE hP hD hS hA hAB (s_X1_add_0 l B0 adK adV D cy ad fr0 tx rby x99 f hT t103 h104 (10 : Int32) _) (cwV 1 hts gX3_readOne_X1_add rfl rfl rfl (by decide +kernel) ⟨Nat.le_of_ble_eq_true rfl, Nat.le_of_ble_eq_true rfl⟩) (x_lt (x_suit h104 (by decide))) 1 e125 rfl rfl hl.1 rfl (Nat.le_of_ble_eq_true rfl) dX3_readOne_43 ⟨Nat.le_of_ble_eq_true rfl, Nat.le_of_ble_eq_true rfl⟩ (fun f H locs hw hP hD hS => ?_)
      obtain ⟨hrs, hT⟩ := hw
      exact tV hx hb hr hlk hP hS ⟨trivial, ⟨x99, hT⟩⟩ dX3_readOne_46
    · exact False.elim (by omega)
set_option maxHeartbeats 4000000 in
set_option maxRecDepth 100000 in
theorem s_X3_readBoth_7 (l : Launch) (B0 : Nat) (adK adV : Nat → Nat) (D : va_G) (cy : Nat → ClassId) (ad : Nat → Nat) (fr0 : Nat → va_E) (tx : Int32) (rby : Int32) (rnx : Int32) (f : Nat → va_E) (hT : TYx ad cy fr0 tx rby rnx f) (sz : Nat) : TtV l yX3_readBoth wsX3_readBoth 52 1200 [.ref (ad 1), .int 0] B0 adK adV D cy ad f sz (fun (g : Nat → va_E) => True ∧ (∃ (rnx' : Int32), TYx ad cy fr0 tx rby rnx' g)) := by
  refine TtV.of (cc := cX3_readBoth) (maxL := 3) (own := RX3) (by decide) rfl (Nat.le_of_ble_eq_true rfl) rfl ?_
  intro p e s m below meth c A ls hx hb hr hml hts hown hlk hK hE hP hD hS hA hAB hl
  have hl : lv_has ls 3 [(0, .ref (ad 1)), (1, .int 0)] := hl
  refine st0 (fun H locs hP hS => ?_) hP hS
  have j7 : ∀ (N : Nat) (f : Nat → va_E) (H : Heap) (locs : List Loc) (ls : Array Slot) (v7_l2 : Int32) (v7_p_rnx : Int32), (1601 - v7_l2.toInt ≤ (N : Int)) → (0 ≤ v7_l2.toInt ∧ v7_l2.toInt ≤ 1600) → (TYx ad cy fr0 tx rby v7_p_rnx f) → (va_P D vwCl (wl ad f) H) → (va_D A (wl ad f)) → (va_S A s.heap H locs) → (lv_has ls 3 [(2, .int v7_l2), (0, .ref (ad 1)), (1, .int 0)]) → W p l e (rmO 52 1200 0 0) s m ([.ref (ad 1), .int 0] : List Value).toArray below meth c H locs 0 0 (MQ below (va_Qv (fun (g : Nat → va_E) => True ∧ (∃ (rnx' : Int32), TYx ad cy fr0 tx rby rnx' g)) (fun g t => PstT D ad g t) A) ([.ref (ad 1), .int 0] : List Value).toArray s 0 0 A) (F0 m 7 ls []) := by
    intro N
    induction N with
    | zero => intro f H locs ls v7_l2 v7_p_rnx hN hv7_l2 hT hP hD hS hl; exact absurd hN (by omega)
    | succ N ih7 =>
      intro f H locs ls v7_l2 v7_p_rnx hN hv7_l2 hT hP hD hS hl
      refine lv_iload_n hx hb dX3_readBoth_7 rfl (lv_at hl 0 rfl) ?_
      refine lv_sipush (v := 1600) hx hb dX3_readBoth_8 (by decide) ?_
      have ttl_1600 := tl_1600
      refine lv_icmp_ge (tgt := 57) hx hb dX3_readBoth_11 (by decide) (fun c1 => ?_) (fun c1 => ?_)
      · have kc1 := c_le c1
        exact tV hx hb hr hlk hP hS ⟨trivial, ⟨v7_p_rnx, hT⟩⟩ dX3_readBoth_57
      · have kc1 := c_nle c1
        refine lv_aload_n hx hb dX3_readBoth_14 rfl (lv_at hl 1 rfl) ?_
        obtain ⟨x2, x3, t5, x7, x9, x10, x11, y12, e13, h4, h6, h8⟩ := (show okX3 ad rby v7_p_rnx 1 (f 1) from hT.1 1 (by decide))
        refine va_get (D := D) (cl := vwCl) (ci := 3) (v := .int x2) (C := RX3) (T := TX3) (N := 13) hx hb hts in_X3_readBoth_X3 hown hK hP 1 (wl_at (by decide) e13) rfl 0 (by decide) (hts (.fieldLink RX3 55 "EightReasons$Reader" "fault" "I") (List.mem_of_getElem? (i := 1) rfl)) (fun _ h9 => h9) rfl dX3_readBoth_15 ?_
        have ttl_0 := tl_0
        refine lv_if_ne (tgt := 57) hx hb dX3_readBoth_18 (by decide) (fun c14 => ?_) (fun c14 => ?_)
        · have kc14 := c_ne c14
          exact tV hx hb hr hlk hP hS ⟨trivial, ⟨v7_p_rnx, hT⟩⟩ dX3_readBoth_57
        · have kc14 := c_eq c14
          refine lv_aload_n hx hb dX3_readBoth_21 rfl (lv_at hl 1 rfl) ?_
          refine va_get (D := D) (cl := vwCl) (ci := 3) (v := .int x10) (C := RX3) (T := TX3) (N := 13) hx hb hts in_X3_readBoth_X3 hown hK hP 1 (wl_at (by decide) e13) rfl 10 (by decide) (hts (.fieldLink RX3 67 "EightReasons$Reader" "kind" "I") (List.mem_of_getElem? (i := 2) rfl)) (fun _ h9 => h9) rfl dX3_readBoth_22 ?_
          refine lv_bipush (v := 9) hx hb dX3_readBoth_25 (by decide) ?_
          have ttl_9 := tl_9
          refine lv_icmp_ne (tgt := 57) hx hb dX3_readBoth_27 (by decide) (fun c15 => ?_) (fun c15 => ?_)
          · have kc15 := c_ne c15
            exact tV hx hb hr hlk hP hS ⟨trivial, ⟨v7_p_rnx, hT⟩⟩ dX3_readBoth_57
          · have kc15 := c_eq c15
            refine lv_aload_n hx hb dX3_readBoth_30 rfl (lv_at hl 1 rfl) ?_
            refine tVV (As := []) (rest := []) (i := 1) ⟨hx, hb, hml, hown, hts⟩ hK hE hP hD hS hA hAB (s_X3_advance_0 l B0 adK adV D cy ad fr0 tx rby v7_p_rnx f hT _) (cwV 0 hts gX3_readBoth_X3_advance rfl rfl rfl (by decide +kernel) ⟨Nat.le_of_ble_eq_true rfl, Nat.le_of_ble_eq_true rfl⟩) (by decide) 3 e13 rfl rfl hl.1 rfl (Nat.le_of_ble_eq_true rfl) dX3_readBoth_31 ⟨Nat.le_of_ble_eq_true rfl, Nat.le_of_ble_eq_true rfl⟩ (fun f H locs hw hP hD hS => ?_)
            obtain ⟨hrs, x16, hT⟩ := hw
            refine lv_aload_n hx hb dX3_readBoth_34 rfl (lv_at hl 1 rfl) ?_
            refine lv_iload_n hx hb dX3_readBoth_35 rfl (lv_at hl 2 rfl) ?_
            obtain ⟨x17, x18, t20, x22, x24, x25, x26, y27, e28, h19, h21, h23⟩ := (show okX3 ad rby x16 1 (f 1) from hT.1 1 (by decide))
            refine tVV (As := [.int 0]) (rest := []) (i := 1) ⟨hx, hb, hml, hown, hts⟩ hK hE hP hD hS hA hAB (s_X3_readOne_7 l B0 adK adV D cy ad fr0 tx rby x16 f hT _) (cwV 1 hts gX3_readBoth_X3_readOne rfl rfl rfl (by decide +kernel) ⟨Nat.le_of_ble_eq_true rfl, Nat.le_of_ble_eq_true rfl⟩) (by decide) 3 e28 rfl rfl hl.1 rfl (Nat.le_of_ble_eq_true rfl) dX3_readBoth_36 ⟨Nat.le_of_ble_eq_true rfl, Nat.le_of_ble_eq_true rfl⟩ (fun f H locs hw hP hD hS => ?_)
            obtain ⟨hrs, x29, hT⟩ := hw
            refine lv_aload_n hx hb dX3_readBoth_39 rfl (lv_at hl 1 rfl) ?_
            obtain ⟨x30, x31, t33, x35, x37, x38, x39, y40, e41, h32, h34, h36⟩ := (show okX3 ad rby x29 1 (f 1) from hT.1 1 (by decide))
            refine va_get (D := D) (cl := vwCl) (ci := 3) (v := .ref (ad t33)) (C := RX3) (T := TX3) (N := 13) hx hb hts in_X3_readBoth_X3 hown hK hP 1 (wl_at (by decide) e41) rfl 4 (by decide) (hts (.fieldLink RX3 22 "EightReasons$Reader" "suit" "LEightReasons$Suit;") (List.mem_of_getElem? (i := 3) rfl)) (fun _ h9 => h9) rfl dX3_readBoth_40 ?_
            obtain ⟨x42, x44, x45, x47, x48, e49, h43, h46⟩ := (ty_suit hT h34)
            refine va_get (D := D) (cl := vwCl) (ci := 5) (v := .ref (ad (t33 + 7))) (C := RX5) (T := TX5) (N := 12) hx hb hts in_X3_readBoth_X5 hown hK hP t33 (wl_at (x_lt (x_suit0 h34)) e49) rfl 11 (by decide) (hts (.fieldLink RX3 191 "EightReasons$Suit" "formula" "LEightReasons$Formula;") (List.mem_of_getElem? (i := 4) rfl)) (fun _ h9 => h9) rfl dX3_readBoth_43 ?_
            refine lv_bipush (v := 9) hx hb dX3_readBoth_46 (by decide) ?_
            obtain ⟨x50, x52, x53, e55, h51, h54⟩ := (ty_suit7 hT h34)
            refine tVV (As := [.int 9]) (rest := []) (i := (t33 + 7)) ⟨hx, hb, hml, hown, hts⟩ hK hE hP hD hS hA hAB (s_X1_add_0 l B0 adK adV D cy ad fr0 tx rby x29 f hT t33 h34 (9 : Int32) _) (cwV 1 hts gX3_readBoth_X1_add rfl rfl rfl (by decide +kernel) ⟨Nat.le_of_ble_eq_true rfl, Nat.le_of_ble_eq_true rfl⟩) (x_lt (x_suit h34 (by decide))) 1 e55 rfl rfl hl.1 rfl (Nat.le_of_ble_eq_true rfl) dX3_readBoth_48 ⟨Nat.le_of_ble_eq_true rfl, Nat.le_of_ble_eq_true rfl⟩ (fun f H locs hw hP hD hS => ?_)
            obtain ⟨hrs, hT⟩ := hw
            obtain ⟨x56, ex56⟩ : ∃ q : Int32, q = v7_l2 + Int32.ofInt (1) := ⟨_, rfl⟩
            refine lv_iinc (v := x56) (lv' := [(2, .int x56), (0, .ref (ad 1)), (1, .int 0)]) hx hb dX3_readBoth_51 hl (k := 0) rfl ex56.symm (by decide) rfl (fun ls hl => ?_)
            have hx56 := r_inc ex56 (by decide) (by omega) (by omega)
            refine lv_goto (tgt := 7) hx hb dX3_readBoth_54 (by decide) ?_
            exact ih7 f H locs ls x56 x29 (by omega) (by omega) hT hP hD hS (lv_sub hl [0, 1, 2] rfl)
  refine lv_aload_n hx hb dX3_readBoth_0 rfl (lv_at hl 0 rfl) ?_
  refine lv_iload_n hx hb dX3_readBoth_1 rfl (lv_at hl 1 rfl) ?_
  have ttl_0 := tl_0
  obtain ⟨x57, x58, t60, x62, x64, x65, x66, y67, e68, h59, h61, h63⟩ := (show okX3 ad rby rnx 1 (f 1) from hT.1 1 (by decide))
  refine tVV (As := [.int 0]) (rest := []) (i := 1) ⟨hx, hb, hml, hown, hts⟩ hK hE hP hD hS hA hAB (s_X3_readOne_7 l B0 adK adV D cy ad fr0 tx rby rnx f hT _) (cwV 1 hts gX3_readBoth_X3_readOne rfl rfl rfl (by decide +kernel) ⟨Nat.le_of_ble_eq_true rfl, Nat.le_of_ble_eq_true rfl⟩) (by decide) 3 e68 rfl rfl hl.1 rfl (Nat.le_of_ble_eq_true rfl) dX3_readBoth_2 ⟨Nat.le_of_ble_eq_true rfl, Nat.le_of_ble_eq_true rfl⟩ (fun f H locs hw hP hD hS => ?_)
  obtain ⟨hrs, x69, hT⟩ := hw
  refine lv_iconst (v := 0) hx hb dX3_readBoth_5 (by decide) ?_
  refine lv_istore_n (lv' := [(2, .int 0), (0, .ref (ad 1)), (1, .int 0)]) hx hb dX3_readBoth_6 rfl hl (by decide) rfl (fun ls hl => ?_)
  exact j7 (Int.toNat (1601 - (0 : Int32).toInt)) f H locs ls (0 : Int32) x69 (by omega) (by omega) hT hP hD hS (lv_sub hl [0, 1, 2] rfl)
set_option maxHeartbeats 4000000 in
set_option maxRecDepth 100000 in
theorem s_X3_readEither_7 (l : Launch) (B0 : Nat) (adK adV : Nat → Nat) (D : va_G) (cy : Nat → ClassId) (ad : Nat → Nat) (fr0 : Nat → va_E) (tx : Int32) (rby : Int32) (rnx : Int32) (f : Nat → va_E) (hT : TYx ad cy fr0 tx rby rnx f) (sz : Nat) : TtV l yX3_readEither wsX3_readEither 53 1222 [.ref (ad 1), .int 0] B0 adK adV D cy ad f sz (fun (g : Nat → va_E) => True ∧ (∃ (rnx' : Int32), TYx ad cy fr0 tx rby rnx' g)) := by
  refine TtV.of (cc := cX3_readEither) (maxL := 3) (own := RX3) (by decide) rfl (Nat.le_of_ble_eq_true rfl) rfl ?_
  intro p e s m below meth c A ls hx hb hr hml hts hown hlk hK hE hP hD hS hA hAB hl
  have hl : lv_has ls 3 [(0, .ref (ad 1)), (1, .int 0)] := hl
  refine st0 (fun H locs hP hS => ?_) hP hS
  have j7 : ∀ (N : Nat) (f : Nat → va_E) (H : Heap) (locs : List Loc) (ls : Array Slot) (v7_l2 : Int32) (v7_p_rnx : Int32), (1601 - v7_l2.toInt ≤ (N : Int)) → (0 ≤ v7_l2.toInt ∧ v7_l2.toInt ≤ 1600) → (TYx ad cy fr0 tx rby v7_p_rnx f) → (va_P D vwCl (wl ad f) H) → (va_D A (wl ad f)) → (va_S A s.heap H locs) → (lv_has ls 3 [(2, .int v7_l2), (0, .ref (ad 1)), (1, .int 0)]) → W p l e (rmO 53 1222 0 0) s m ([.ref (ad 1), .int 0] : List Value).toArray below meth c H locs 0 0 (MQ below (va_Qv (fun (g : Nat → va_E) => True ∧ (∃ (rnx' : Int32), TYx ad cy fr0 tx rby rnx' g)) (fun g t => PstT D ad g t) A) ([.ref (ad 1), .int 0] : List Value).toArray s 0 0 A) (F0 m 7 ls []) := by
    intro N
    induction N with
    | zero => intro f H locs ls v7_l2 v7_p_rnx hN hv7_l2 hT hP hD hS hl; exact absurd hN (by omega)
    | succ N ih7 =>
      intro f H locs ls v7_l2 v7_p_rnx hN hv7_l2 hT hP hD hS hl
      refine lv_iload_n hx hb dX3_readEither_7 rfl (lv_at hl 0 rfl) ?_
      refine lv_sipush (v := 1600) hx hb dX3_readEither_8 (by decide) ?_
      have ttl_1600 := tl_1600
      refine lv_icmp_ge (tgt := 57) hx hb dX3_readEither_11 (by decide) (fun c1 => ?_) (fun c1 => ?_)
      · have kc1 := c_le c1
        exact tV hx hb hr hlk hP hS ⟨trivial, ⟨v7_p_rnx, hT⟩⟩ dX3_readEither_57
      · have kc1 := c_nle c1
        refine lv_aload_n hx hb dX3_readEither_14 rfl (lv_at hl 1 rfl) ?_
        obtain ⟨x2, x3, t5, x7, x9, x10, x11, y12, e13, h4, h6, h8⟩ := (show okX3 ad rby v7_p_rnx 1 (f 1) from hT.1 1 (by decide))
        refine va_get (D := D) (cl := vwCl) (ci := 3) (v := .int x2) (C := RX3) (T := TX3) (N := 13) hx hb hts in_X3_readEither_X3 hown hK hP 1 (wl_at (by decide) e13) rfl 0 (by decide) (hts (.fieldLink RX3 55 "EightReasons$Reader" "fault" "I") (List.mem_of_getElem? (i := 1) rfl)) (fun _ h9 => h9) rfl dX3_readEither_15 ?_
        have ttl_0 := tl_0
        refine lv_if_ne (tgt := 57) hx hb dX3_readEither_18 (by decide) (fun c14 => ?_) (fun c14 => ?_)
        · have kc14 := c_ne c14
          exact tV hx hb hr hlk hP hS ⟨trivial, ⟨v7_p_rnx, hT⟩⟩ dX3_readEither_57
        · have kc14 := c_eq c14
          refine lv_aload_n hx hb dX3_readEither_21 rfl (lv_at hl 1 rfl) ?_
          refine va_get (D := D) (cl := vwCl) (ci := 3) (v := .int x10) (C := RX3) (T := TX3) (N := 13) hx hb hts in_X3_readEither_X3 hown hK hP 1 (wl_at (by decide) e13) rfl 10 (by decide) (hts (.fieldLink RX3 67 "EightReasons$Reader" "kind" "I") (List.mem_of_getElem? (i := 2) rfl)) (fun _ h9 => h9) rfl dX3_readEither_22 ?_
          refine lv_bipush (v := 8) hx hb dX3_readEither_25 (by decide) ?_
          have ttl_8 := tl_8
          refine lv_icmp_ne (tgt := 57) hx hb dX3_readEither_27 (by decide) (fun c15 => ?_) (fun c15 => ?_)
          · have kc15 := c_ne c15
            exact tV hx hb hr hlk hP hS ⟨trivial, ⟨v7_p_rnx, hT⟩⟩ dX3_readEither_57
          · have kc15 := c_eq c15
            refine lv_aload_n hx hb dX3_readEither_30 rfl (lv_at hl 1 rfl) ?_
            refine tVV (As := []) (rest := []) (i := 1) ⟨hx, hb, hml, hown, hts⟩ hK hE hP hD hS hA hAB (s_X3_advance_0 l B0 adK adV D cy ad fr0 tx rby v7_p_rnx f hT _) (cwV 0 hts gX3_readEither_X3_advance rfl rfl rfl (by decide +kernel) ⟨Nat.le_of_ble_eq_true rfl, Nat.le_of_ble_eq_true rfl⟩) (by decide) 3 e13 rfl rfl hl.1 rfl (Nat.le_of_ble_eq_true rfl) dX3_readEither_31 ⟨Nat.le_of_ble_eq_true rfl, Nat.le_of_ble_eq_true rfl⟩ (fun f H locs hw hP hD hS => ?_)
            obtain ⟨hrs, x16, hT⟩ := hw
            refine lv_aload_n hx hb dX3_readEither_34 rfl (lv_at hl 1 rfl) ?_
            refine lv_iload_n hx hb dX3_readEither_35 rfl (lv_at hl 2 rfl) ?_
            obtain ⟨x17, x18, t20, x22, x24, x25, x26, y27, e28, h19, h21, h23⟩ := (show okX3 ad rby x16 1 (f 1) from hT.1 1 (by decide))
            refine tVV (As := [.int 0]) (rest := []) (i := 1) ⟨hx, hb, hml, hown, hts⟩ hK hE hP hD hS hA hAB (s_X3_readBoth_7 l B0 adK adV D cy ad fr0 tx rby x16 f hT _) (cwV 1 hts gX3_readEither_X3_readBoth rfl rfl rfl (by decide +kernel) ⟨Nat.le_of_ble_eq_true rfl, Nat.le_of_ble_eq_true rfl⟩) (by decide) 3 e28 rfl rfl hl.1 rfl (Nat.le_of_ble_eq_true rfl) dX3_readEither_36 ⟨Nat.le_of_ble_eq_true rfl, Nat.le_of_ble_eq_true rfl⟩ (fun f H locs hw hP hD hS => ?_)
            obtain ⟨hrs, x29, hT⟩ := hw
            refine lv_aload_n hx hb dX3_readEither_39 rfl (lv_at hl 1 rfl) ?_
            obtain ⟨x30, x31, t33, x35, x37, x38, x39, y40, e41, h32, h34, h36⟩ := (show okX3 ad rby x29 1 (f 1) from hT.1 1 (by decide))
            refine va_get (D := D) (cl := vwCl) (ci := 3) (v := .ref (ad t33)) (C := RX3) (T := TX3) (N := 13) hx hb hts in_X3_readEither_X3 hown hK hP 1 (wl_at (by decide) e41) rfl 4 (by decide) (hts (.fieldLink RX3 22 "EightReasons$Reader" "suit" "LEightReasons$Suit;") (List.mem_of_getElem? (i := 3) rfl)) (fun _ h9 => h9) rfl dX3_readEither_40 ?_
            obtain ⟨x42, x44, x45, x47, x48, e49, h43, h46⟩ := (ty_suit hT h34)
            refine va_get (D := D) (cl := vwCl) (ci := 5) (v := .ref (ad (t33 + 7))) (C := RX5) (T := TX5) (N := 12) hx hb hts in_X3_readEither_X5 hown hK hP t33 (wl_at (x_lt (x_suit0 h34)) e49) rfl 11 (by decide) (hts (.fieldLink RX3 191 "EightReasons$Suit" "formula" "LEightReasons$Formula;") (List.mem_of_getElem? (i := 4) rfl)) (fun _ h9 => h9) rfl dX3_readEither_43 ?_
            refine lv_bipush (v := 8) hx hb dX3_readEither_46 (by decide) ?_
            obtain ⟨x50, x52, x53, e55, h51, h54⟩ := (ty_suit7 hT h34)
            refine tVV (As := [.int 8]) (rest := []) (i := (t33 + 7)) ⟨hx, hb, hml, hown, hts⟩ hK hE hP hD hS hA hAB (s_X1_add_0 l B0 adK adV D cy ad fr0 tx rby x29 f hT t33 h34 (8 : Int32) _) (cwV 1 hts gX3_readEither_X1_add rfl rfl rfl (by decide +kernel) ⟨Nat.le_of_ble_eq_true rfl, Nat.le_of_ble_eq_true rfl⟩) (x_lt (x_suit h34 (by decide))) 1 e55 rfl rfl hl.1 rfl (Nat.le_of_ble_eq_true rfl) dX3_readEither_48 ⟨Nat.le_of_ble_eq_true rfl, Nat.le_of_ble_eq_true rfl⟩ (fun f H locs hw hP hD hS => ?_)
            obtain ⟨hrs, hT⟩ := hw
            obtain ⟨x56, ex56⟩ : ∃ q : Int32, q = v7_l2 + Int32.ofInt (1) := ⟨_, rfl⟩
            refine lv_iinc (v := x56) (lv' := [(2, .int x56), (0, .ref (ad 1)), (1, .int 0)]) hx hb dX3_readEither_51 hl (k := 0) rfl ex56.symm (by decide) rfl (fun ls hl => ?_)
            have hx56 := r_inc ex56 (by decide) (by omega) (by omega)
            refine lv_goto (tgt := 7) hx hb dX3_readEither_54 (by decide) ?_
            exact ih7 f H locs ls x56 x29 (by omega) (by omega) hT hP hD hS (lv_sub hl [0, 1, 2] rfl)
  refine lv_aload_n hx hb dX3_readEither_0 rfl (lv_at hl 0 rfl) ?_
  refine lv_iload_n hx hb dX3_readEither_1 rfl (lv_at hl 1 rfl) ?_
  have ttl_0 := tl_0
  obtain ⟨x57, x58, t60, x62, x64, x65, x66, y67, e68, h59, h61, h63⟩ := (show okX3 ad rby rnx 1 (f 1) from hT.1 1 (by decide))
  refine tVV (As := [.int 0]) (rest := []) (i := 1) ⟨hx, hb, hml, hown, hts⟩ hK hE hP hD hS hA hAB (s_X3_readBoth_7 l B0 adK adV D cy ad fr0 tx rby rnx f hT _) (cwV 1 hts gX3_readEither_X3_readBoth rfl rfl rfl (by decide +kernel) ⟨Nat.le_of_ble_eq_true rfl, Nat.le_of_ble_eq_true rfl⟩) (by decide) 3 e68 rfl rfl hl.1 rfl (Nat.le_of_ble_eq_true rfl) dX3_readEither_2 ⟨Nat.le_of_ble_eq_true rfl, Nat.le_of_ble_eq_true rfl⟩ (fun f H locs hw hP hD hS => ?_)
  obtain ⟨hrs, x69, hT⟩ := hw
  refine lv_iconst (v := 0) hx hb dX3_readEither_5 (by decide) ?_
  refine lv_istore_n (lv' := [(2, .int 0), (0, .ref (ad 1)), (1, .int 0)]) hx hb dX3_readEither_6 rfl hl (by decide) rfl (fun ls hl => ?_)
  exact j7 (Int.toNat (1601 - (0 : Int32).toInt)) f H locs ls (0 : Int32) x69 (by omega) (by omega) hT hP hD hS (lv_sub hl [0, 1, 2] rfl)
set_option maxHeartbeats 4000000 in
set_option maxRecDepth 100000 in
theorem s_X3_readFact_0 (l : Launch) (B0 : Nat) (adK adV : Nat → Nat) (D : va_G) (cy : Nat → ClassId) (ad : Nat → Nat) (fr0 : Nat → va_E) (tx : Int32) (rby : Int32) (rnx : Int32) (f : Nat → va_E) (hT : TYx ad cy fr0 tx rby rnx f) (sz : Nat) : TtV l yX3_readFact wsX3_readFact 6 148 [.ref (ad 1)] B0 adK adV D cy ad f sz (fun (g : Nat → va_E) => True ∧ (∃ (rnx' : Int32), TYx ad cy fr0 tx rby rnx' g)) := by
  refine TtV.of (cc := cX3_readFact) (maxL := 1) (own := RX3) (by decide) rfl (Nat.le_of_ble_eq_true rfl) rfl ?_
  intro p e s m below meth c A ls hx hb hr hml hts hown hlk hK hE hP hD hS hA hAB hl
  have hl : lv_has ls 1 [(0, .ref (ad 1))] := hl
  refine st0 (fun H locs hP hS => ?_) hP hS
  have j18 : ∀ (f : Nat → va_E) (H : Heap) (locs : List Loc) (ls : Array Slot) (v18_s1 : Int32), (0 ≤ v18_s1.toInt ∧ v18_s1.toInt ≤ 1) → (TYx ad cy fr0 tx rby rnx f) → (va_P D vwCl (wl ad f) H) → (va_D A (wl ad f)) → (va_S A s.heap H locs) → (lv_has ls 1 [(0, .ref (ad 1))]) → W p l e (rmO 6 148 0 0) s m ([.ref (ad 1)] : List Value).toArray below meth c H locs 0 0 (MQ below (va_Qv (fun (g : Nat → va_E) => True ∧ (∃ (rnx' : Int32), TYx ad cy fr0 tx rby rnx' g)) (fun g t => PstT D ad g t) A) ([.ref (ad 1)] : List Value).toArray s 0 0 A) (F0 m 18 ls [.int v18_s1, .ref (ad 1)]) := by
    intro f H locs ls v18_s1 hv18_s1 hT hP hD hS hl
    obtain ⟨x1, x2, t4, x6, x8, x9, x10, y11, e12, h3, h5, h7⟩ := (show okX3 ad rby rnx 1 (f 1) from hT.1 1 (by decide))
    refine tVI (As := [.int v18_s1]) (rest := []) (i := 1) ⟨hx, hb, hml, hown, hts⟩ hK hE hP hD hS hA hAB (s_X3_begin_0 l B0 adK adV D cy ad fr0 tx rby rnx f hT v18_s1 (by omega) _) (cwV 1 hts gX3_readFact_X3_begin rfl rfl rfl (by decide +kernel) ⟨Nat.le_of_ble_eq_true rfl, Nat.le_of_ble_eq_true rfl⟩) (by decide) 3 e12 rfl rfl hl.1 rfl (Nat.le_of_ble_eq_true rfl) dX3_readFact_18 ⟨Nat.le_of_ble_eq_true rfl, Nat.le_of_ble_eq_true rfl⟩ (fun r f H locs hw hP hD hS => ?_)
    obtain ⟨hrs, x13, hT⟩ := hw
    obtain ⟨x14, rfl⟩ : ∃ q, q = r := ⟨_, rfl⟩
    rcases hrs with ⟨rfl, h15⟩ | ⟨rfl, h16⟩
    · refine lv_if_ne (tgt := 25) hx hb dX3_readFact_21 (by decide) (fun _ => ?_) (fun c => absurd c (by decide))
      refine lv_aload_n hx hb dX3_readFact_25 rfl (lv_at hl 0 rfl) ?_
      obtain ⟨x17, x18, t20, x22, x24, x25, x26, y27, e28, h19, h21, h23⟩ := (show okX3 ad rby x13 1 (f 1) from hT.1 1 (by decide))
      refine tVV (As := []) (rest := []) (i := 1) ⟨hx, hb, hml, hown, hts⟩ hK hE hP hD hS hA hAB (s_X3_readNewName_0 l B0 adK adV D cy ad fr0 tx rby x13 f hT _) (cwV 0 hts gX3_readFact_X3_readNewName rfl rfl rfl (by decide +kernel) ⟨Nat.le_of_ble_eq_true rfl, Nat.le_of_ble_eq_true rfl⟩) (by decide) 3 e28 rfl rfl hl.1 rfl (Nat.le_of_ble_eq_true rfl) dX3_readFact_26 ⟨Nat.le_of_ble_eq_true rfl, Nat.le_of_ble_eq_true rfl⟩ (fun f H locs hw hP hD hS => ?_)
      obtain ⟨hrs, x29, hT⟩ := hw
      refine lv_aload_n hx hb dX3_readFact_29 rfl (lv_at hl 0 rfl) ?_
      obtain ⟨x30, x31, t33, x35, x37, x38, x39, y40, e41, h32, h34, h36⟩ := (show okX3 ad rby x29 1 (f 1) from hT.1 1 (by decide))
      refine va_get (D := D) (cl := vwCl) (ci := 3) (v := .int x30) (C := RX3) (T := TX3) (N := 13) hx hb hts in_X3_readFact_X3 hown hK hP 1 (wl_at (by decide) e41) rfl 0 (by decide) (hts (.fieldLink RX3 55 "EightReasons$Reader" "fault" "I") (List.mem_of_getElem? (i := 3) rfl)) (fun _ h9 => h9) rfl dX3_readFact_30 ?_
      have ttl_0 := tl_0
      refine lv_if_ne (tgt := 45) hx hb dX3_readFact_33 (by decide) (fun c42 => ?_) (fun c42 => ?_)
      · have kc42 := c_ne c42
        exact tV hx hb hr hlk hP hS ⟨trivial, ⟨x29, hT⟩⟩ dX3_readFact_45
      · have kc42 := c_eq c42
        refine lv_aload_n hx hb dX3_readFact_36 rfl (lv_at hl 0 rfl) ?_
        refine va_get (D := D) (cl := vwCl) (ci := 3) (v := .ref (ad t33)) (C := RX3) (T := TX3) (N := 13) hx hb hts in_X3_readFact_X3 hown hK hP 1 (wl_at (by decide) e41) rfl 4 (by decide) (hts (.fieldLink RX3 22 "EightReasons$Reader" "suit" "LEightReasons$Suit;") (List.mem_of_getElem? (i := 1) rfl)) (fun _ h9 => h9) rfl dX3_readFact_37 ?_
        refine lv_iconst (v := 1) hx hb dX3_readFact_40 (by decide) ?_
        refine lv_iconst (v := 0) hx hb dX3_readFact_41 (by decide) ?_
        have ttl_1 := tl_1
        obtain ⟨x43, x45, x46, x48, x49, e50, h44, h47⟩ := (ty_suit hT h34)
        refine tVV (As := [.int 1, .int 0]) (rest := []) (i := t33) ⟨hx, hb, hml, hown, hts⟩ hK hE hP hD hS hA hAB (s_X5_addPoint_0 l B0 adK adV D cy ad fr0 tx rby x29 f hT t33 h34 (1 : Int32) (by omega) (0 : Int32) _) (cwV 2 hts gX3_readFact_X5_addPoint rfl rfl rfl (by decide +kernel) ⟨Nat.le_of_ble_eq_true rfl, Nat.le_of_ble_eq_true rfl⟩) (x_lt (x_suit0 h34)) 5 e50 rfl rfl hl.1 rfl (Nat.le_of_ble_eq_true rfl) dX3_readFact_42 ⟨Nat.le_of_ble_eq_true rfl, Nat.le_of_ble_eq_true rfl⟩ (fun f H locs hw hP hD hS => ?_)
        obtain ⟨hrs, hT⟩ := hw
        exact tV hx hb hr hlk hP hS ⟨trivial, ⟨x29, hT⟩⟩ dX3_readFact_45
    · refine lv_if_ne (tgt := 25) hx hb dX3_readFact_21 (by decide) (fun c => absurd (by decide) c) (fun _ => ?_)
      exact tV hx hb hr hlk hP hS ⟨trivial, ⟨x13, hT⟩⟩ dX3_readFact_24
  refine lv_aload_n hx hb dX3_readFact_0 rfl (lv_at hl 0 rfl) ?_
  refine lv_aload_n hx hb dX3_readFact_1 rfl (lv_at hl 0 rfl) ?_
  obtain ⟨x51, x52, t54, x56, x58, x59, x60, y61, e62, h53, h55, h57⟩ := (show okX3 ad rby rnx 1 (f 1) from hT.1 1 (by decide))
  refine va_get (D := D) (cl := vwCl) (ci := 3) (v := .ref (ad t54)) (C := RX3) (T := TX3) (N := 13) hx hb hts in_X3_readFact_X3 hown hK hP 1 (wl_at (by decide) e62) rfl 4 (by decide) (hts (.fieldLink RX3 22 "EightReasons$Reader" "suit" "LEightReasons$Suit;") (List.mem_of_getElem? (i := 1) rfl)) (fun _ h9 => h9) rfl dX3_readFact_2 ?_
  obtain ⟨x63, x65, x66, x68, x69, e70, h64, h67⟩ := (ty_suit hT h55)
  refine va_get (D := D) (cl := vwCl) (ci := 5) (v := .int x63) (C := RX5) (T := TX5) (N := 12) hx hb hts in_X3_readFact_X5 hown hK hP t54 (wl_at (x_lt (x_suit0 h55)) e70) rfl 0 (by decide) (hts (.fieldLink RX3 149 "EightReasons$Suit" "points" "I") (List.mem_of_getElem? (i := 2) rfl)) (fun _ h9 => h9) rfl dX3_readFact_5 ?_
  refine lv_bipush (v := 10) hx hb dX3_readFact_8 (by decide) ?_
  have ttl_10 := tl_10
  refine lv_icmp_ge (tgt := 17) hx hb dX3_readFact_10 (by decide) (fun c71 => ?_) (fun c71 => ?_)
  · have kc71 := c_le c71
    refine lv_iconst (v := 0) hx hb dX3_readFact_17 (by decide) ?_
    have ttl_0 := tl_0
    exact j18 f H locs ls (0 : Int32) (by omega) hT hP hD hS (lv_sub hl [0] rfl)
  · have kc71 := c_nle c71
    refine lv_iconst (v := 1) hx hb dX3_readFact_13 (by decide) ?_
    refine lv_goto (tgt := 18) hx hb dX3_readFact_14 (by decide) ?_
    have ttl_1 := tl_1
    exact j18 f H locs ls (1 : Int32) (by omega) hT hP hD hS (lv_sub hl [0] rfl)
set_option maxHeartbeats 4000000 in
set_option maxRecDepth 100000 in
theorem s_X5_isPoint_0 (l : Launch) (B0 : Nat) (adK adV : Nat → Nat) (D : va_G) (cy : Nat → ClassId) (ad : Nat → Nat) (fr0 : Nat → va_E) (tx : Int32) (rby : Int32) (rnx : Int32) (f : Nat → va_E) (hT : TYx ad cy fr0 tx rby rnx f) (q0 : Nat) (hq0 : isSuit q0) (p1 : Int32) (sz : Nat) : TtI l yX5_isPoint wsX5_isPoint 0 0 [.ref (ad q0), .int p1] B0 adK adV D cy ad f sz (fun (r : Int32) (g : Nat → va_E) => ((r = 1 ∧ 0 ≤ p1.toInt ∧ p1.toInt ≤ 9) ∨ (r = 0)) ∧ (f = g)) := by
  refine TtI.of (cc := cX5_isPoint) (maxL := 2) (ty := .boolean) (own := RX5) (by decide) rfl (Nat.le_of_ble_eq_true rfl) rfl ?_
  intro p e s m below meth c A ls hx hb hr hml hts hown hlk hK hE hP hD hS hA hAB hl
  have hl : lv_has ls 2 [(0, .ref (ad q0)), (1, .int p1)] := hl
  refine st0 (fun H locs hP hS => ?_) hP hS
  refine lv_iload_n hx hb dX5_isPoint_0 rfl (lv_at hl 1 rfl) ?_
  have ttl_0 := tl_0
  refine lv_if_lt (tgt := 16) hx hb dX5_isPoint_1 (by decide) (fun c1 => ?_) (fun c1 => ?_)
  · have kc1 := c_lt c1
    refine lv_iconst (v := 0) hx hb dX5_isPoint_16 (by decide) ?_
    exact tI hx hb hr hlk rfl hP hS ⟨(Or.inr rfl), rfl⟩ dX5_isPoint_17
  · have kc1 := c_nlt c1
    refine lv_iload_n hx hb dX5_isPoint_4 rfl (lv_at hl 1 rfl) ?_
    refine lv_aload_n hx hb dX5_isPoint_5 rfl (lv_at hl 0 rfl) ?_
    obtain ⟨x2, x4, x5, x7, x8, e9, h3, h6⟩ := (ty_suit hT hq0)
    refine va_get (D := D) (cl := vwCl) (ci := 5) (v := .int x2) (C := RX5) (T := TX5) (N := 12) hx hb hts in_X5_isPoint_X5 hown hK hP q0 (wl_at (x_lt (x_suit0 hq0)) e9) rfl 0 (by decide) (hts (.fieldLink RX5 37 "EightReasons$Suit" "points" "I") (List.mem_of_getElem? (i := 1) rfl)) (fun _ h9 => h9) rfl dX5_isPoint_6 ?_
    refine lv_icmp_ge (tgt := 16) hx hb dX5_isPoint_9 (by decide) (fun c10 => ?_) (fun c10 => ?_)
    · have kc10 := c_le c10
      refine lv_iconst (v := 0) hx hb dX5_isPoint_16 (by decide) ?_
      exact tI hx hb hr hlk rfl hP hS ⟨(Or.inr rfl), rfl⟩ dX5_isPoint_17
    · have kc10 := c_nle c10
      refine lv_iconst (v := 1) hx hb dX5_isPoint_12 (by decide) ?_
      refine lv_goto (tgt := 17) hx hb dX5_isPoint_13 (by decide) ?_
      have ttl_1 := tl_1
      exact tI hx hb hr hlk rfl hP hS ⟨(Or.inl ⟨rfl, by omega, by omega⟩), rfl⟩ dX5_isPoint_17
set_option maxHeartbeats 4000000 in
set_option maxRecDepth 100000 in
theorem s_X5_isClaim_0 (l : Launch) (B0 : Nat) (adK adV : Nat → Nat) (D : va_G) (cy : Nat → ClassId) (ad : Nat → Nat) (fr0 : Nat → va_E) (tx : Int32) (rby : Int32) (rnx : Int32) (f : Nat → va_E) (hT : TYx ad cy fr0 tx rby rnx f) (q0 : Nat) (hq0 : isSuit q0) (p1 : Int32) (sz : Nat) : TtI l yX5_isClaim wsX5_isClaim 1 21 [.ref (ad q0), .int p1] B0 adK adV D cy ad f sz (fun (r : Int32) (g : Nat → va_E) => ((r = 1 ∧ 0 ≤ p1.toInt ∧ p1.toInt ≤ 9) ∨ (r = 0)) ∧ (f = g)) := by
  refine TtI.of (cc := cX5_isClaim) (maxL := 2) (ty := .boolean) (own := RX5) (by decide) rfl (Nat.le_of_ble_eq_true rfl) rfl ?_
  intro p e s m below meth c A ls hx hb hr hml hts hown hlk hK hE hP hD hS hA hAB hl
  have hl : lv_has ls 2 [(0, .ref (ad q0)), (1, .int p1)] := hl
  refine st0 (fun H locs hP hS => ?_) hP hS
  refine lv_aload_n hx hb dX5_isClaim_0 rfl (lv_at hl 0 rfl) ?_
  refine lv_iload_n hx hb dX5_isClaim_1 rfl (lv_at hl 1 rfl) ?_
  obtain ⟨x1, x3, x4, x6, x7, e8, h2, h5⟩ := (ty_suit hT hq0)
  refine tVI (As := [.int p1]) (rest := []) (i := q0) ⟨hx, hb, hml, hown, hts⟩ hK hE hP hD hS hA hAB (s_X5_isPoint_0 l B0 adK adV D cy ad fr0 tx rby rnx f hT q0 hq0 p1 _) (cwV 1 hts gX5_isClaim_X5_isPoint rfl rfl rfl (by decide +kernel) ⟨Nat.le_of_ble_eq_true rfl, Nat.le_of_ble_eq_true rfl⟩) (x_lt (x_suit0 hq0)) 5 e8 rfl rfl hl.1 rfl (Nat.le_of_ble_eq_true rfl) dX5_isClaim_2 ⟨Nat.le_of_ble_eq_true rfl, Nat.le_of_ble_eq_true rfl⟩ (fun r g H locs hw hP hD hS => ?_)
  obtain ⟨hrs, rfl⟩ := hw
  obtain ⟨x9, rfl⟩ : ∃ q, q = r := ⟨_, rfl⟩
  rcases hrs with ⟨rfl, h10, h11⟩ | rfl
  · refine lv_if_eq (tgt := 23) hx hb dX5_isClaim_5 (by decide) (fun c => absurd c (by decide)) (fun _ => ?_)
    refine lv_aload_n hx hb dX5_isClaim_8 rfl (lv_at hl 0 rfl) ?_
    refine va_get (D := D) (cl := vwCl) (ci := 5) (v := .int x3) (C := RX5) (T := TX5) (N := 12) hx hb hts in_X5_isClaim_X5 hown hK hP q0 (wl_at (x_lt (x_suit0 hq0)) e8) rfl 1 (by decide) (hts (.fieldLink RX5 41 "EightReasons$Suit" "facts" "I") (List.mem_of_getElem? (i := 1) rfl)) (fun _ h9 => h9) rfl dX5_isClaim_9 ?_
    refine lv_iload_n hx hb dX5_isClaim_12 rfl (lv_at hl 1 rfl) ?_
    refine tNI (As := [.int x3, .int p1]) (rest := []) (host := RX8) ⟨hx, hb, hml, hown, hts⟩ hK hE hP hD hS hA hAB (s_X8_has_0 l B0 adK adV D cy ad f x3 p1 _) ⟨va_cnB 2 hts gX5_isClaim_X8_has_n63 rfl rfl rfl (hE.2.1 _ (List.mem_of_getElem? (i := 12) rfl)) (hts (.initialized RX8) (List.mem_of_getElem? (i := 9) rfl)) (by decide +kernel) ⟨Nat.le_of_ble_eq_true rfl, Nat.le_of_ble_eq_true rfl⟩, (hts (.static yX8_has) (List.mem_of_getElem? (i := 8) rfl)), trivial⟩ rfl hl.1 rfl (Nat.le_of_ble_eq_true rfl) dX5_isClaim_13 ⟨Nat.le_of_ble_eq_true rfl, Nat.le_of_ble_eq_true rfl⟩ (fun r g H locs hw hP hD hS => ?_)
    obtain ⟨hrs, rfl⟩ := hw
    obtain ⟨x12, rfl⟩ : ∃ q, q = r := ⟨_, rfl⟩
    rcases hrs with rfl | rfl
    · refine lv_if_ne (tgt := 23) hx hb dX5_isClaim_16 (by decide) (fun _ => ?_) (fun c => absurd c (by decide))
      refine lv_iconst (v := 0) hx hb dX5_isClaim_23 (by decide) ?_
      have ttl_0 := tl_0
      exact tI hx hb hr hlk rfl hP hS ⟨(Or.inr rfl), rfl⟩ dX5_isClaim_24
    · refine lv_if_ne (tgt := 23) hx hb dX5_isClaim_16 (by decide) (fun c => absurd (by decide) c) (fun _ => ?_)
      refine lv_iconst (v := 1) hx hb dX5_isClaim_19 (by decide) ?_
      refine lv_goto (tgt := 24) hx hb dX5_isClaim_20 (by decide) ?_
      have ttl_1 := tl_1
      exact tI hx hb hr hlk rfl hP hS ⟨(Or.inl ⟨rfl, by omega, by omega⟩), rfl⟩ dX5_isClaim_24
  · refine lv_if_eq (tgt := 23) hx hb dX5_isClaim_5 (by decide) (fun _ => ?_) (fun c => absurd (by decide) c)
    refine lv_iconst (v := 0) hx hb dX5_isClaim_23 (by decide) ?_
    have ttl_0 := tl_0
    exact tI hx hb hr hlk rfl hP hS ⟨(Or.inr rfl), rfl⟩ dX5_isClaim_24
set_option maxHeartbeats 4000000 in
set_option maxRecDepth 100000 in
theorem s_X3_mayLead_0 (l : Launch) (B0 : Nat) (adK adV : Nat → Nat) (D : va_G) (cy : Nat → ClassId) (ad : Nat → Nat) (fr0 : Nat → va_E) (tx : Int32) (rby : Int32) (rnx : Int32) (f : Nat → va_E) (hT : TYx ad cy fr0 tx rby rnx f) (p1 : Int32) (hp1 : -1 ≤ p1.toInt ∧ p1.toInt ≤ 9) (p2 : Int32) (hp2 : -1 ≤ p2.toInt ∧ p2.toInt ≤ 9) (sz : Nat) : TtI l yX3_mayLead wsX3_mayLead 2 42 [.ref (ad 1), .int p1, .int p2] B0 adK adV D cy ad f sz (fun (r : Int32) (g : Nat → va_E) => ((r = 1) ∨ (r = 0)) ∧ (f = g)) := by
  refine TtI.of (cc := cX3_mayLead) (maxL := 3) (ty := .boolean) (own := RX3) (by decide) rfl (Nat.le_of_ble_eq_true rfl) rfl ?_
  intro p e s m below meth c A ls hx hb hr hml hts hown hlk hK hE hP hD hS hA hAB hl
  have hl : lv_has ls 3 [(0, .ref (ad 1)), (1, .int p1), (2, .int p2)] := hl
  refine st0 (fun H locs hP hS => ?_) hP hS
  refine lv_iload_n hx hb dX3_mayLead_0 rfl (lv_at hl 1 rfl) ?_
  refine lv_iload_n hx hb dX3_mayLead_1 rfl (lv_at hl 2 rfl) ?_
  refine lv_icmp_eq (tgt := 27) hx hb dX3_mayLead_2 (by decide) (fun c1 => ?_) (fun c1 => ?_)
  · have kc1 := c_eq c1
    refine lv_iconst (v := 0) hx hb dX3_mayLead_27 (by decide) ?_
    have ttl_0 := tl_0
    exact tI hx hb hr hlk rfl hP hS ⟨(Or.inr rfl), rfl⟩ dX3_mayLead_28
  · have kc1 := c_ne c1
    refine lv_aload_n hx hb dX3_mayLead_5 rfl (lv_at hl 0 rfl) ?_
    obtain ⟨x2, x3, t5, x7, x9, x10, x11, y12, e13, h4, h6, h8⟩ := (show okX3 ad rby rnx 1 (f 1) from hT.1 1 (by decide))
    refine va_get (D := D) (cl := vwCl) (ci := 3) (v := .ref (ad t5)) (C := RX3) (T := TX3) (N := 13) hx hb hts in_X3_mayLead_X3 hown hK hP 1 (wl_at (by decide) e13) rfl 4 (by decide) (hts (.fieldLink RX3 22 "EightReasons$Reader" "suit" "LEightReasons$Suit;") (List.mem_of_getElem? (i := 1) rfl)) (fun _ h9 => h9) rfl dX3_mayLead_6 ?_
    refine lv_iload_n hx hb dX3_mayLead_9 rfl (lv_at hl 1 rfl) ?_
    obtain ⟨x14, x16, x17, x19, x20, e21, h15, h18⟩ := (ty_suit hT h6)
    refine tVI (As := [.int p1]) (rest := []) (i := t5) ⟨hx, hb, hml, hown, hts⟩ hK hE hP hD hS hA hAB (s_X5_isPoint_0 l B0 adK adV D cy ad fr0 tx rby rnx f hT t5 h6 p1 _) (cwV 1 hts gX3_mayLead_X5_isPoint rfl rfl rfl (by decide +kernel) ⟨Nat.le_of_ble_eq_true rfl, Nat.le_of_ble_eq_true rfl⟩) (x_lt (x_suit0 h6)) 5 e21 rfl rfl hl.1 rfl (Nat.le_of_ble_eq_true rfl) dX3_mayLead_10 ⟨Nat.le_of_ble_eq_true rfl, Nat.le_of_ble_eq_true rfl⟩ (fun r g H locs hw hP hD hS => ?_)
    obtain ⟨hrs, rfl⟩ := hw
    obtain ⟨x22, rfl⟩ : ∃ q, q = r := ⟨_, rfl⟩
    rcases hrs with ⟨rfl, h23, h24⟩ | rfl
    · refine lv_if_eq (tgt := 27) hx hb dX3_mayLead_13 (by decide) (fun c => absurd c (by decide)) (fun _ => ?_)
      refine lv_aload_n hx hb dX3_mayLead_16 rfl (lv_at hl 0 rfl) ?_
      refine va_get (D := D) (cl := vwCl) (ci := 3) (v := .ref (ad t5)) (C := RX3) (T := TX3) (N := 13) hx hb hts in_X3_mayLead_X3 hown hK hP 1 (wl_at (by decide) e13) rfl 4 (by decide) (hts (.fieldLink RX3 22 "EightReasons$Reader" "suit" "LEightReasons$Suit;") (List.mem_of_getElem? (i := 1) rfl)) (fun _ h9 => h9) rfl dX3_mayLead_17 ?_
      refine lv_iload_n hx hb dX3_mayLead_20 rfl (lv_at hl 2 rfl) ?_
      refine tVI (As := [.int p2]) (rest := []) (i := t5) ⟨hx, hb, hml, hown, hts⟩ hK hE hP hD hS hA hAB (s_X5_isClaim_0 l B0 adK adV D cy ad fr0 tx rby rnx f hT t5 h6 p2 _) (cwV 1 hts gX3_mayLead_X5_isClaim rfl rfl rfl (by decide +kernel) ⟨Nat.le_of_ble_eq_true rfl, Nat.le_of_ble_eq_true rfl⟩) (x_lt (x_suit0 h6)) 5 e21 rfl rfl hl.1 rfl (Nat.le_of_ble_eq_true rfl) dX3_mayLead_21 ⟨Nat.le_of_ble_eq_true rfl, Nat.le_of_ble_eq_true rfl⟩ (fun r g H locs hw hP hD hS => ?_)
      obtain ⟨hrs, rfl⟩ := hw
      obtain ⟨x25, rfl⟩ : ∃ q, q = r := ⟨_, rfl⟩
      rcases hrs with ⟨rfl, h26, h27⟩ | rfl
      · refine lv_if_ne (tgt := 29) hx hb dX3_mayLead_24 (by decide) (fun _ => ?_) (fun c => absurd c (by decide))
        refine lv_aload_n hx hb dX3_mayLead_29 rfl (lv_at hl 0 rfl) ?_
        refine va_get (D := D) (cl := vwCl) (ci := 3) (v := .ref (ad t5)) (C := RX3) (T := TX3) (N := 13) hx hb hts in_X3_mayLead_X3 hown hK hP 1 (wl_at (by decide) e13) rfl 4 (by decide) (hts (.fieldLink RX3 22 "EightReasons$Reader" "suit" "LEightReasons$Suit;") (List.mem_of_getElem? (i := 1) rfl)) (fun _ h9 => h9) rfl dX3_mayLead_30 ?_
        refine va_get (D := D) (cl := vwCl) (ci := 5) (v := .ref (ad (t5 + 3))) (C := RX5) (T := TX5) (N := 12) hx hb hts in_X3_mayLead_X5 hown hK hP t5 (wl_at (x_lt (x_suit0 h6)) e21) rfl 7 (by decide) (hts (.fieldLink RX3 178 "EightReasons$Suit" "from" "[I") (List.mem_of_getElem? (i := 2) rfl)) (fun _ h9 => h9) rfl dX3_mayLead_33 ?_
        refine lv_iload_n hx hb dX3_mayLead_36 rfl (lv_at hl 1 rfl) ?_
        obtain ⟨g29, e28⟩ := (ty_suit3 hT h6)
        refine va_iald hx hb hK hP (t5 + 3) 0 (wl_at (x_lt (x_suit h6 (by decide))) e28) rfl (vp_in_iff.mpr ⟨by omega, by omega⟩) dX3_mayLead_37 ?_
        refine lv_topi (fun x30 ex30 => ?_)
        refine lv_aload_n hx hb dX3_mayLead_38 rfl (lv_at hl 0 rfl) ?_
        refine va_get (D := D) (cl := vwCl) (ci := 3) (v := .ref (ad t5)) (C := RX3) (T := TX3) (N := 13) hx hb hts in_X3_mayLead_X3 hown hK hP 1 (wl_at (by decide) e13) rfl 4 (by decide) (hts (.fieldLink RX3 22 "EightReasons$Reader" "suit" "LEightReasons$Suit;") (List.mem_of_getElem? (i := 1) rfl)) (fun _ h9 => h9) rfl dX3_mayLead_39 ?_
        refine va_get (D := D) (cl := vwCl) (ci := 5) (v := .ref (ad (t5 + 2))) (C := RX5) (T := TX5) (N := 12) hx hb hts in_X3_mayLead_X5 hown hK hP t5 (wl_at (x_lt (x_suit0 h6)) e21) rfl 6 (by decide) (hts (.fieldLink RX3 182 "EightReasons$Suit" "into" "[I") (List.mem_of_getElem? (i := 3) rfl)) (fun _ h9 => h9) rfl dX3_mayLead_42 ?_
        refine lv_iload_n hx hb dX3_mayLead_45 rfl (lv_at hl 2 rfl) ?_
        obtain ⟨g32, e31⟩ := (ty_suit2 hT h6)
        refine va_iald hx hb hK hP (t5 + 2) 0 (wl_at (x_lt (x_suit h6 (by decide))) e31) rfl (vp_in_iff.mpr ⟨by omega, by omega⟩) dX3_mayLead_46 ?_
        refine lv_topi (fun x33 ex33 => ?_)
        refine lv_iand hx hb dX3_mayLead_47 ?_
        refine lv_topi (fun x34 ex34 => ?_)
        have ttl_0 := tl_0
        refine lv_if_ne (tgt := 55) hx hb dX3_mayLead_48 (by decide) (fun c35 => ?_) (fun c35 => ?_)
        · have kc35 := c_ne c35
          refine lv_iconst (v := 0) hx hb dX3_mayLead_55 (by decide) ?_
          exact tI hx hb hr hlk rfl hP hS ⟨(Or.inr rfl), rfl⟩ dX3_mayLead_56
        · have kc35 := c_eq c35
          refine lv_iconst (v := 1) hx hb dX3_mayLead_51 (by decide) ?_
          refine lv_goto (tgt := 56) hx hb dX3_mayLead_52 (by decide) ?_
          have ttl_1 := tl_1
          exact tI hx hb hr hlk rfl hP hS ⟨(Or.inl rfl), rfl⟩ dX3_mayLead_56
      · refine lv_if_ne (tgt := 29) hx hb dX3_mayLead_24 (by decide) (fun c => absurd (by decide) c) (fun _ => ?_)
        refine lv_iconst (v := 0) hx hb dX3_mayLead_27 (by decide) ?_
        have ttl_0 := tl_0
        exact tI hx hb hr hlk rfl hP hS ⟨(Or.inr rfl), rfl⟩ dX3_mayLead_28
    · refine lv_if_eq (tgt := 27) hx hb dX3_mayLead_13 (by decide) (fun _ => ?_) (fun c => absurd (by decide) c)
      refine lv_iconst (v := 0) hx hb dX3_mayLead_27 (by decide) ?_
      have ttl_0 := tl_0
      exact tI hx hb hr hlk rfl hP hS ⟨(Or.inr rfl), rfl⟩ dX3_mayLead_28
set_option maxHeartbeats 4000000 in
set_option maxRecDepth 100000 in
theorem s_X3_pointNamed_0 (l : Launch) (B0 : Nat) (adK adV : Nat → Nat) (D : va_G) (cy : Nat → ClassId) (ad : Nat → Nat) (fr0 : Nat → va_E) (tx : Int32) (rby : Int32) (rnx : Int32) (f : Nat → va_E) (hT : TYx ad cy fr0 tx rby rnx f) (sz : Nat) : TtI l yX3_pointNamed wsX3_pointNamed 1 21 [.ref (ad 1)] B0 adK adV D cy ad f sz (fun (r : Int32) (g : Nat → va_E) => (-1 ≤ r.toInt ∧ r.toInt ≤ 9) ∧ (TYx ad cy fr0 tx rby rnx g)) := by
  refine TtI.of (cc := cX3_pointNamed) (maxL := 2) (ty := .int) (own := RX3) (by decide) rfl (Nat.le_of_ble_eq_true rfl) rfl ?_
  intro p e s m below meth c A ls hx hb hr hml hts hown hlk hK hE hP hD hS hA hAB hl
  have hl : lv_has ls 2 [(0, .ref (ad 1))] := hl
  refine st0 (fun H locs hP hS => ?_) hP hS
  refine lv_aload_n hx hb dX3_pointNamed_0 rfl (lv_at hl 0 rfl) ?_
  obtain ⟨x1, x2, t4, x6, x8, x9, x10, y11, e12, h3, h5, h7⟩ := (show okX3 ad rby rnx 1 (f 1) from hT.1 1 (by decide))
  refine tVI (As := []) (rest := []) (i := 1) ⟨hx, hb, hml, hown, hts⟩ hK hE hP hD hS hA hAB (s_X3_find_0 l B0 adK adV D cy ad fr0 tx rby rnx f hT _) (cwV 0 hts gX3_pointNamed_X3_find rfl rfl rfl (by decide +kernel) ⟨Nat.le_of_ble_eq_true rfl, Nat.le_of_ble_eq_true rfl⟩) (by decide) 3 e12 rfl rfl hl.1 rfl (Nat.le_of_ble_eq_true rfl) dX3_pointNamed_1 ⟨Nat.le_of_ble_eq_true rfl, Nat.le_of_ble_eq_true rfl⟩ (fun r g H locs hw hP hD hS => ?_)
  obtain ⟨hrs, rfl⟩ := hw
  obtain ⟨x13, rfl⟩ : ∃ q, q = r := ⟨_, rfl⟩
  have h14 := hrs
  refine lv_istore_n (lv' := [(1, .int x13), (0, .ref (ad 1))]) hx hb dX3_pointNamed_4 rfl hl (by decide) rfl (fun ls hl => ?_)
  refine lv_aload_n hx hb dX3_pointNamed_5 rfl (lv_at hl 1 rfl) ?_
  refine va_get (D := D) (cl := vwCl) (ci := 3) (v := .int x9) (C := RX3) (T := TX3) (N := 13) hx hb hts in_X3_pointNamed_X3 hown hK hP 1 (wl_at (by decide) e12) rfl 10 (by decide) (hts (.fieldLink RX3 67 "EightReasons$Reader" "kind" "I") (List.mem_of_getElem? (i := 1) rfl)) (fun _ h9 => h9) rfl dX3_pointNamed_6 ?_
  refine lv_bipush (v := 14) hx hb dX3_pointNamed_9 (by decide) ?_
  have ttl_14 := tl_14
  refine lv_icmp_ne (tgt := 24) hx hb dX3_pointNamed_11 (by decide) (fun c15 => ?_) (fun c15 => ?_)
  · have kc15 := c_ne c15
    refine lv_iload_n hx hb dX3_pointNamed_24 rfl (lv_at hl 0 rfl) ?_
    exact tI hx hb hr hlk rfl hP hS ⟨(by omega), hT⟩ dX3_pointNamed_25
  · have kc15 := c_eq c15
    refine lv_iload_n hx hb dX3_pointNamed_14 rfl (lv_at hl 0 rfl) ?_
    refine lv_iconst (v := (-1)) hx hb dX3_pointNamed_15 (by decide) ?_
    have ttl_m1 := tl_m1
    refine lv_icmp_ne (tgt := 24) hx hb dX3_pointNamed_16 (by decide) (fun c16 => ?_) (fun c16 => ?_)
    · have kc16 := c_ne c16
      refine lv_iload_n hx hb dX3_pointNamed_24 rfl (lv_at hl 0 rfl) ?_
      exact tI hx hb hr hlk rfl hP hS ⟨(by omega), hT⟩ dX3_pointNamed_25
    · have kc16 := c_eq c16
      refine lv_aload_n hx hb dX3_pointNamed_19 rfl (lv_at hl 1 rfl) ?_
      refine lv_iconst (v := 5) hx hb dX3_pointNamed_20 (by decide) ?_
      have ttl_5 := tl_5
      refine tVV (As := [.int 5]) (rest := []) (i := 1) ⟨hx, hb, hml, hown, hts⟩ hK hE hP hD hS hA hAB (s_X3_blame_0 l B0 adK adV D cy ad fr0 tx rby rnx f hT (5 : Int32) (by omega) _) (cwV 1 hts gX3_pointNamed_X3_blame rfl rfl rfl (by decide +kernel) ⟨Nat.le_of_ble_eq_true rfl, Nat.le_of_ble_eq_true rfl⟩) (by decide) 3 e12 rfl rfl hl.1 rfl (Nat.le_of_ble_eq_true rfl) dX3_pointNamed_21 ⟨Nat.le_of_ble_eq_true rfl, Nat.le_of_ble_eq_true rfl⟩ (fun f H locs hw hP hD hS => ?_)
      obtain ⟨hrs, hT⟩ := hw
      refine lv_iload_n hx hb dX3_pointNamed_24 rfl (lv_at hl 0 rfl) ?_
      exact tI hx hb hr hlk rfl hP hS ⟨(by omega), hT⟩ dX3_pointNamed_25
set_option maxHeartbeats 4000000 in
set_option maxRecDepth 100000 in
theorem s_X5_addStrand_0 (l : Launch) (B0 : Nat) (adK adV : Nat → Nat) (D : va_G) (cy : Nat → ClassId) (ad : Nat → Nat) (fr0 : Nat → va_E) (tx : Int32) (rby : Int32) (rnx : Int32) (f : Nat → va_E) (hT : TYx ad cy fr0 tx rby rnx f) (q0 : Nat) (hq0 : isSuit q0) (p1 : Int32) (hp1 : -1 ≤ p1.toInt ∧ p1.toInt ≤ 9) (p2 : Int32) (hp2 : -1 ≤ p2.toInt ∧ p2.toInt ≤ 9) (p3 : Int32) (sz : Nat) : TtV l yX5_addStrand wsX5_addStrand 1 21 [.ref (ad q0), .int p1, .int p2, .int p3] B0 adK adV D cy ad f sz (fun (g : Nat → va_E) => True ∧ (TYx ad cy fr0 tx rby rnx g)) := by
  refine TtV.of (cc := cX5_addStrand) (maxL := 4) (own := RX5) (by decide) rfl (Nat.le_of_ble_eq_true rfl) rfl ?_
  intro p e s m below meth c A ls hx hb hr hml hts hown hlk hK hE hP hD hS hA hAB hl
  have hl : lv_has ls 4 [(0, .ref (ad q0)), (1, .int p1), (2, .int p2), (3, .int p3)] := hl
  refine st0 (fun H locs hP hS => ?_) hP hS
  refine lv_aload_n hx hb dX5_addStrand_0 rfl (lv_at hl 0 rfl) ?_
  obtain ⟨x1, x3, x4, x6, x7, e8, h2, h5⟩ := (ty_suit hT hq0)
  refine va_get (D := D) (cl := vwCl) (ci := 5) (v := .int x4) (C := RX5) (T := TX5) (N := 12) hx hb hts in_X5_addStrand_X5 hown hK hP q0 (wl_at (x_lt (x_suit0 hq0)) e8) rfl 2 (by decide) (hts (.fieldLink RX5 44 "EightReasons$Suit" "strands" "I") (List.mem_of_getElem? (i := 1) rfl)) (fun _ h9 => h9) rfl dX5_addStrand_1 ?_
  refine lv_bipush (v := 12) hx hb dX5_addStrand_4 (by decide) ?_
  have ttl_12 := tl_12
  refine lv_icmp_ge (tgt := 25) hx hb dX5_addStrand_6 (by decide) (fun c9 => ?_) (fun c9 => ?_)
  · have kc9 := c_le c9
    exact tV hx hb hr hlk hP hS ⟨trivial, hT⟩ dX5_addStrand_25
  · have kc9 := c_nle c9
    refine lv_aload_n hx hb dX5_addStrand_9 rfl (lv_at hl 0 rfl) ?_
    refine lv_iload_n hx hb dX5_addStrand_10 rfl (lv_at hl 1 rfl) ?_
    refine tVI (As := [.int p1]) (rest := []) (i := q0) ⟨hx, hb, hml, hown, hts⟩ hK hE hP hD hS hA hAB (s_X5_isPoint_0 l B0 adK adV D cy ad fr0 tx rby rnx f hT q0 hq0 p1 _) (cwV 1 hts gX5_addStrand_X5_isPoint rfl rfl rfl (by decide +kernel) ⟨Nat.le_of_ble_eq_true rfl, Nat.le_of_ble_eq_true rfl⟩) (x_lt (x_suit0 hq0)) 5 e8 rfl rfl hl.1 rfl (Nat.le_of_ble_eq_true rfl) dX5_addStrand_11 ⟨Nat.le_of_ble_eq_true rfl, Nat.le_of_ble_eq_true rfl⟩ (fun r g H locs hw hP hD hS => ?_)
    obtain ⟨hrs, rfl⟩ := hw
    obtain ⟨x10, rfl⟩ : ∃ q, q = r := ⟨_, rfl⟩
    rcases hrs with ⟨rfl, h11, h12⟩ | rfl
    · refine lv_if_eq (tgt := 25) hx hb dX5_addStrand_14 (by decide) (fun c => absurd c (by decide)) (fun _ => ?_)
      refine lv_aload_n hx hb dX5_addStrand_17 rfl (lv_at hl 0 rfl) ?_
      refine lv_iload_n hx hb dX5_addStrand_18 rfl (lv_at hl 2 rfl) ?_
      refine tVI (As := [.int p2]) (rest := []) (i := q0) ⟨hx, hb, hml, hown, hts⟩ hK hE hP hD hS hA hAB (s_X5_isPoint_0 l B0 adK adV D cy ad fr0 tx rby rnx f hT q0 hq0 p2 _) (cwV 1 hts gX5_addStrand_X5_isPoint rfl rfl rfl (by decide +kernel) ⟨Nat.le_of_ble_eq_true rfl, Nat.le_of_ble_eq_true rfl⟩) (x_lt (x_suit0 hq0)) 5 e8 rfl rfl hl.1 rfl (Nat.le_of_ble_eq_true rfl) dX5_addStrand_19 ⟨Nat.le_of_ble_eq_true rfl, Nat.le_of_ble_eq_true rfl⟩ (fun r g H locs hw hP hD hS => ?_)
      obtain ⟨hrs, rfl⟩ := hw
      obtain ⟨x13, rfl⟩ : ∃ q, q = r := ⟨_, rfl⟩
      rcases hrs with ⟨rfl, h14, h15⟩ | rfl
      · refine lv_if_ne (tgt := 26) hx hb dX5_addStrand_22 (by decide) (fun _ => ?_) (fun c => absurd c (by decide))
        refine lv_aload_n hx hb dX5_addStrand_26 rfl (lv_at hl 0 rfl) ?_
        refine va_get (D := D) (cl := vwCl) (ci := 5) (v := .ref (ad (q0 + 4))) (C := RX5) (T := TX5) (N := 12) hx hb hts in_X5_addStrand_X5 hown hK hP q0 (wl_at (x_lt (x_suit0 hq0)) e8) rfl 8 (by decide) (hts (.fieldLink RX5 21 "EightReasons$Suit" "source" "[I") (List.mem_of_getElem? (i := 2) rfl)) (fun _ h9 => h9) rfl dX5_addStrand_27 ?_
        refine lv_aload_n hx hb dX5_addStrand_30 rfl (lv_at hl 0 rfl) ?_
        refine va_get (D := D) (cl := vwCl) (ci := 5) (v := .int x4) (C := RX5) (T := TX5) (N := 12) hx hb hts in_X5_addStrand_X5 hown hK hP q0 (wl_at (x_lt (x_suit0 hq0)) e8) rfl 2 (by decide) (hts (.fieldLink RX5 44 "EightReasons$Suit" "strands" "I") (List.mem_of_getElem? (i := 1) rfl)) (fun _ h9 => h9) rfl dX5_addStrand_31 ?_
        refine lv_iload_n hx hb dX5_addStrand_34 rfl (lv_at hl 1 rfl) ?_
        obtain ⟨g18, e16, h17⟩ := (ty_suit4 hT hq0)
        refine va_iast hx hb hK hP hD hS (q0 + 4) 0 (wl_at (x_lt (x_suit hq0 (by decide))) e16) rfl (vp_in_iff.mpr ⟨by omega, by omega⟩) dX5_addStrand_35 (fun H locs hP hD hS => ?_)
        obtain ⟨f, hT, hP, hD, e19, hj20⟩ := stU (x_lt (x_suit hq0 (by decide))) (TYx.up hT (x_suit hq0 (by decide)) (ok_suit4 hq0 ⟨_, rfl, upd_r h17 (fun _ => by omega)⟩)) hP hD
        have e21 := (hj20 q0 (by omega)).trans e8
        refine lv_aload_n hx hb dX5_addStrand_36 rfl (lv_at hl 0 rfl) ?_
        refine va_get (D := D) (cl := vwCl) (ci := 5) (v := .ref (ad (q0 + 5))) (C := RX5) (T := TX5) (N := 12) hx hb hts in_X5_addStrand_X5 hown hK hP q0 (wl_at (x_lt (x_suit0 hq0)) e21) rfl 9 (by decide) (hts (.fieldLink RX5 24 "EightReasons$Suit" "target" "[I") (List.mem_of_getElem? (i := 3) rfl)) (fun _ h9 => h9) rfl dX5_addStrand_37 ?_
        refine lv_aload_n hx hb dX5_addStrand_40 rfl (lv_at hl 0 rfl) ?_
        refine va_get (D := D) (cl := vwCl) (ci := 5) (v := .int x4) (C := RX5) (T := TX5) (N := 12) hx hb hts in_X5_addStrand_X5 hown hK hP q0 (wl_at (x_lt (x_suit0 hq0)) e21) rfl 2 (by decide) (hts (.fieldLink RX5 44 "EightReasons$Suit" "strands" "I") (List.mem_of_getElem? (i := 1) rfl)) (fun _ h9 => h9) rfl dX5_addStrand_41 ?_
        refine lv_iload_n hx hb dX5_addStrand_44 rfl (lv_at hl 2 rfl) ?_
        obtain ⟨g24, e22, h23⟩ := (ty_suit5 hT hq0)
        refine va_iast hx hb hK hP hD hS (q0 + 5) 0 (wl_at (x_lt (x_suit hq0 (by decide))) e22) rfl (vp_in_iff.mpr ⟨by omega, by omega⟩) dX5_addStrand_45 (fun H locs hP hD hS => ?_)
        obtain ⟨f, hT, hP, hD, e25, hj26⟩ := stU (x_lt (x_suit hq0 (by decide))) (TYx.up hT (x_suit hq0 (by decide)) (ok_suit5 hq0 ⟨_, rfl, upd_r h23 (fun _ => by omega)⟩)) hP hD
        have e27 := (hj26 q0 (by omega)).trans e21
        refine lv_aload_n hx hb dX5_addStrand_46 rfl (lv_at hl 0 rfl) ?_
        refine va_get (D := D) (cl := vwCl) (ci := 5) (v := .ref (ad (q0 + 6))) (C := RX5) (T := TX5) (N := 12) hx hb hts in_X5_addStrand_X5 hown hK hP q0 (wl_at (x_lt (x_suit0 hq0)) e27) rfl 10 (by decide) (hts (.fieldLink RX5 27 "EightReasons$Suit" "strong" "[I") (List.mem_of_getElem? (i := 4) rfl)) (fun _ h9 => h9) rfl dX5_addStrand_47 ?_
        refine lv_aload_n hx hb dX5_addStrand_50 rfl (lv_at hl 0 rfl) ?_
        refine va_get (D := D) (cl := vwCl) (ci := 5) (v := .int x4) (C := RX5) (T := TX5) (N := 12) hx hb hts in_X5_addStrand_X5 hown hK hP q0 (wl_at (x_lt (x_suit0 hq0)) e27) rfl 2 (by decide) (hts (.fieldLink RX5 44 "EightReasons$Suit" "strands" "I") (List.mem_of_getElem? (i := 1) rfl)) (fun _ h9 => h9) rfl dX5_addStrand_51 ?_
        refine lv_iload_n hx hb dX5_addStrand_54 rfl (lv_at hl 3 rfl) ?_
        obtain ⟨g29, e28⟩ := (ty_suit6 hT hq0)
        refine va_iast hx hb hK hP hD hS (q0 + 6) 0 (wl_at (x_lt (x_suit hq0 (by decide))) e28) rfl (vp_in_iff.mpr ⟨by omega, by omega⟩) dX5_addStrand_55 (fun H locs hP hD hS => ?_)
        obtain ⟨f, hT, hP, hD, e30, hj31⟩ := stU (x_lt (x_suit hq0 (by decide))) (TYx.up hT (x_suit hq0 (by decide)) (ok_suit6 hq0 ⟨_, rfl⟩)) hP hD
        have e32 := (hj31 q0 (by omega)).trans e27
        refine lv_aload_n hx hb dX5_addStrand_56 rfl (lv_at hl 0 rfl) ?_
        refine va_get (D := D) (cl := vwCl) (ci := 5) (v := .ref (ad (q0 + 3))) (C := RX5) (T := TX5) (N := 12) hx hb hts in_X5_addStrand_X5 hown hK hP q0 (wl_at (x_lt (x_suit0 hq0)) e32) rfl 7 (by decide) (hts (.fieldLink RX5 18 "EightReasons$Suit" "from" "[I") (List.mem_of_getElem? (i := 5) rfl)) (fun _ h9 => h9) rfl dX5_addStrand_57 ?_
        refine lv_iload_n hx hb dX5_addStrand_60 rfl (lv_at hl 1 rfl) ?_
        refine lv_dup2_11 hx hb dX5_addStrand_61 rfl rfl ?_
        obtain ⟨g34, e33⟩ := (ty_suit3 hT hq0)
        refine va_iald hx hb hK hP (q0 + 3) 0 (wl_at (x_lt (x_suit hq0 (by decide))) e33) rfl (vp_in_iff.mpr ⟨by omega, by omega⟩) dX5_addStrand_62 ?_
        refine lv_topi (fun x35 ex35 => ?_)
        refine lv_iconst (v := 1) hx hb dX5_addStrand_63 (by decide) ?_
        refine lv_aload_n hx hb dX5_addStrand_64 rfl (lv_at hl 0 rfl) ?_
        refine va_get (D := D) (cl := vwCl) (ci := 5) (v := .int x4) (C := RX5) (T := TX5) (N := 12) hx hb hts in_X5_addStrand_X5 hown hK hP q0 (wl_at (x_lt (x_suit0 hq0)) e32) rfl 2 (by decide) (hts (.fieldLink RX5 44 "EightReasons$Suit" "strands" "I") (List.mem_of_getElem? (i := 1) rfl)) (fun _ h9 => h9) rfl dX5_addStrand_65 ?_
        refine lv_ishl hx hb dX5_addStrand_68 ?_
        refine lv_topi (fun x36 ex36 => ?_)
        have hx36 := r_shl (K := 11) (M := 2048) ex36 (by decide) (by decide) (by omega) (by omega)
        refine lv_ior hx hb dX5_addStrand_69 ?_
        refine lv_topi (fun x37 ex37 => ?_)
        refine va_iast hx hb hK hP hD hS (q0 + 3) 0 (wl_at (x_lt (x_suit hq0 (by decide))) e33) rfl (vp_in_iff.mpr ⟨by omega, by omega⟩) dX5_addStrand_70 (fun H locs hP hD hS => ?_)
        obtain ⟨f, hT, hP, hD, e38, hj39⟩ := stU (x_lt (x_suit hq0 (by decide))) (TYx.up hT (x_suit hq0 (by decide)) (ok_suit3 hq0 ⟨_, rfl⟩)) hP hD
        have e40 := (hj39 q0 (by omega)).trans e32
        refine lv_aload_n hx hb dX5_addStrand_71 rfl (lv_at hl 0 rfl) ?_
        refine va_get (D := D) (cl := vwCl) (ci := 5) (v := .ref (ad (q0 + 2))) (C := RX5) (T := TX5) (N := 12) hx hb hts in_X5_addStrand_X5 hown hK hP q0 (wl_at (x_lt (x_suit0 hq0)) e40) rfl 6 (by decide) (hts (.fieldLink RX5 15 "EightReasons$Suit" "into" "[I") (List.mem_of_getElem? (i := 6) rfl)) (fun _ h9 => h9) rfl dX5_addStrand_72 ?_
        refine lv_iload_n hx hb dX5_addStrand_75 rfl (lv_at hl 2 rfl) ?_
        refine lv_dup2_11 hx hb dX5_addStrand_76 rfl rfl ?_
        obtain ⟨g42, e41⟩ := (ty_suit2 hT hq0)
        refine va_iald hx hb hK hP (q0 + 2) 0 (wl_at (x_lt (x_suit hq0 (by decide))) e41) rfl (vp_in_iff.mpr ⟨by omega, by omega⟩) dX5_addStrand_77 ?_
        refine lv_topi (fun x43 ex43 => ?_)
        refine lv_iconst (v := 1) hx hb dX5_addStrand_78 (by decide) ?_
        refine lv_aload_n hx hb dX5_addStrand_79 rfl (lv_at hl 0 rfl) ?_
        refine va_get (D := D) (cl := vwCl) (ci := 5) (v := .int x4) (C := RX5) (T := TX5) (N := 12) hx hb hts in_X5_addStrand_X5 hown hK hP q0 (wl_at (x_lt (x_suit0 hq0)) e40) rfl 2 (by decide) (hts (.fieldLink RX5 44 "EightReasons$Suit" "strands" "I") (List.mem_of_getElem? (i := 1) rfl)) (fun _ h9 => h9) rfl dX5_addStrand_80 ?_
        refine lv_ishl hx hb dX5_addStrand_83 ?_
        refine lv_topi (fun x44 ex44 => ?_)
        have hx44 := r_shl (K := 11) (M := 2048) ex44 (by decide) (by decide) (by omega) (by omega)
        refine lv_ior hx hb dX5_addStrand_84 ?_
        refine lv_topi (fun x45 ex45 => ?_)
        refine va_iast hx hb hK hP hD hS (q0 + 2) 0 (wl_at (x_lt (x_suit hq0 (by decide))) e41) rfl (vp_in_iff.mpr ⟨by omega, by omega⟩) dX5_addStrand_85 (fun H locs hP hD hS => ?_)
        obtain ⟨f, hT, hP, hD, e46, hj47⟩ := stU (x_lt (x_suit hq0 (by decide))) (TYx.up hT (x_suit hq0 (by decide)) (ok_suit2 hq0 ⟨_, rfl⟩)) hP hD
        have e48 := (hj47 q0 (by omega)).trans e40
        refine lv_aload_n hx hb dX5_addStrand_86 rfl (lv_at hl 0 rfl) ?_
        refine lv_dup hx hb dX5_addStrand_87 rfl ?_
        refine va_get (D := D) (cl := vwCl) (ci := 5) (v := .int x4) (C := RX5) (T := TX5) (N := 12) hx hb hts in_X5_addStrand_X5 hown hK hP q0 (wl_at (x_lt (x_suit0 hq0)) e48) rfl 2 (by decide) (hts (.fieldLink RX5 44 "EightReasons$Suit" "strands" "I") (List.mem_of_getElem? (i := 1) rfl)) (fun _ h9 => h9) rfl dX5_addStrand_88 ?_
        refine lv_iconst (v := 1) hx hb dX5_addStrand_91 (by decide) ?_
        have ttl_1 := tl_1
        refine lv_iadd hx hb dX5_addStrand_92 ?_
        refine lv_topi (fun x49 ex49 => ?_)
        have hx49 := r_add ex49 (by omega) (by omega)
        refine va_put (D := D) (cl := vwCl) (ci := 5) (v := .int x49) (ty := tyX5 2) (C := RX5) (T := TX5) (N := 12) hx hb hts in_X5_addStrand_X5 tyX5 tyX5_ok nmX5 hown hK hP hD hS q0 (wl_at (x_lt (x_suit0 hq0)) e48) rfl 2 (by decide) (hts (.fieldLink RX5 44 "EightReasons$Suit" "strands" "I") (List.mem_of_getElem? (i := 1) rfl)) (fun _ h9 => h9) rfl (tyX5_ok 2 (by decide)) rfl rfl (Nat.le_of_ble_eq_true rfl) dX5_addStrand_93 (fun H locs hP hD hS => ?_)
        obtain ⟨f, hT, hP, hD, e50, hj51⟩ := stU (x_lt (x_suit0 hq0)) (TYx.up hT (x_suit0 hq0) (ok_suit hq0 ⟨x1, x3, x49, x6, x7, rfl, by omega, by omega⟩)) hP hD
        exact tV hx hb hr hlk hP hS ⟨trivial, hT⟩ dX5_addStrand_96
      · refine lv_if_ne (tgt := 26) hx hb dX5_addStrand_22 (by decide) (fun c => absurd (by decide) c) (fun _ => ?_)
        exact tV hx hb hr hlk hP hS ⟨trivial, hT⟩ dX5_addStrand_25
    · refine lv_if_eq (tgt := 25) hx hb dX5_addStrand_14 (by decide) (fun _ => ?_) (fun c => absurd (by decide) c)
      exact tV hx hb hr hlk hP hS ⟨trivial, hT⟩ dX5_addStrand_25
set_option maxHeartbeats 4000000 in
set_option maxRecDepth 100000 in
theorem s_X3_readStrand_0 (l : Launch) (B0 : Nat) (adK adV : Nat → Nat) (D : va_G) (cy : Nat → ClassId) (ad : Nat → Nat) (fr0 : Nat → va_E) (tx : Int32) (rby : Int32) (rnx : Int32) (f : Nat → va_E) (hT : TYx ad cy fr0 tx rby rnx f) (sz : Nat) : TtV l yX3_readStrand wsX3_readStrand 6 150 [.ref (ad 1)] B0 adK adV D cy ad f sz (fun (g : Nat → va_E) => True ∧ (∃ (rnx' : Int32), TYx ad cy fr0 tx rby rnx' g)) := by
  refine TtV.of (cc := cX3_readStrand) (maxL := 4) (own := RX3) (by decide) rfl (Nat.le_of_ble_eq_true rfl) rfl ?_
  intro p e s m below meth c A ls hx hb hr hml hts hown hlk hK hE hP hD hS hA hAB hl
  have hl : lv_has ls 4 [(0, .ref (ad 1))] := hl
  refine st0 (fun H locs hP hS => ?_) hP hS
  have j64 : ∀ (f : Nat → va_E) (H : Heap) (locs : List Loc) (ls : Array Slot) (v64_l2 : Int32) (v64_l1 : Int32) (v64_p_rnx : Int32), (-1 ≤ v64_l2.toInt ∧ v64_l2.toInt ≤ 9) → (-1 ≤ v64_l1.toInt ∧ v64_l1.toInt ≤ 9) → (TYx ad cy fr0 tx rby v64_p_rnx f) → (va_P D vwCl (wl ad f) H) → (va_D A (wl ad f)) → (va_S A s.heap H locs) → (lv_has ls 4 [(2, .int v64_l2), (1, .int v64_l1), (0, .ref (ad 1))]) → W p l e (rmO 6 150 0 0) s m ([.ref (ad 1)] : List Value).toArray below meth c H locs 0 0 (MQ below (va_Qv (fun (g : Nat → va_E) => True ∧ (∃ (rnx' : Int32), TYx ad cy fr0 tx rby rnx' g)) (fun g t => PstT D ad g t) A) ([.ref (ad 1)] : List Value).toArray s 0 0 A) (F0 m 64 ls []) := by
    intro f H locs ls v64_l2 v64_l1 v64_p_rnx hv64_l2 hv64_l1 hT hP hD hS hl
    refine lv_aload_n hx hb dX3_readStrand_64 rfl (lv_at hl 2 rfl) ?_
    refine lv_bipush (v := 14) hx hb dX3_readStrand_65 (by decide) ?_
    have ttl_14 := tl_14
    obtain ⟨x1, x2, t4, x6, x8, x9, x10, y11, e12, h3, h5, h7⟩ := (show okX3 ad rby v64_p_rnx 1 (f 1) from hT.1 1 (by decide))
    refine tVV (As := [.int 14]) (rest := []) (i := 1) ⟨hx, hb, hml, hown, hts⟩ hK hE hP hD hS hA hAB (s_X3_expect_0 l B0 adK adV D cy ad fr0 tx rby v64_p_rnx f hT (14 : Int32) (by omega) _) (cwV 1 hts gX3_readStrand_X3_expect rfl rfl rfl (by decide +kernel) ⟨Nat.le_of_ble_eq_true rfl, Nat.le_of_ble_eq_true rfl⟩) (by decide) 3 e12 rfl rfl hl.1 rfl (Nat.le_of_ble_eq_true rfl) dX3_readStrand_67 ⟨Nat.le_of_ble_eq_true rfl, Nat.le_of_ble_eq_true rfl⟩ (fun f H locs hw hP hD hS => ?_)
    obtain ⟨hrs, x13, hT⟩ := hw
    refine lv_aload_n hx hb dX3_readStrand_70 rfl (lv_at hl 2 rfl) ?_
    refine lv_iconst (v := 4) hx hb dX3_readStrand_71 (by decide) ?_
    have ttl_4 := tl_4
    obtain ⟨x14, x15, t17, x19, x21, x22, x23, y24, e25, h16, h18, h20⟩ := (show okX3 ad rby x13 1 (f 1) from hT.1 1 (by decide))
    refine tVV (As := [.int 4]) (rest := []) (i := 1) ⟨hx, hb, hml, hown, hts⟩ hK hE hP hD hS hA hAB (s_X3_expect_0 l B0 adK adV D cy ad fr0 tx rby x13 f hT (4 : Int32) (by omega) _) (cwV 1 hts gX3_readStrand_X3_expect rfl rfl rfl (by decide +kernel) ⟨Nat.le_of_ble_eq_true rfl, Nat.le_of_ble_eq_true rfl⟩) (by decide) 3 e25 rfl rfl hl.1 rfl (Nat.le_of_ble_eq_true rfl) dX3_readStrand_72 ⟨Nat.le_of_ble_eq_true rfl, Nat.le_of_ble_eq_true rfl⟩ (fun f H locs hw hP hD hS => ?_)
    obtain ⟨hrs, x26, hT⟩ := hw
    refine lv_aload_n hx hb dX3_readStrand_75 rfl (lv_at hl 2 rfl) ?_
    refine lv_iconst (v := 1) hx hb dX3_readStrand_76 (by decide) ?_
    refine lv_bipush (v := 20) hx hb dX3_readStrand_77 (by decide) ?_
    have ttl_1 := tl_1
    have ttl_20 := tl_20
    obtain ⟨x27, x28, t30, x32, x34, x35, x36, y37, e38, h29, h31, h33⟩ := (show okX3 ad rby x26 1 (f 1) from hT.1 1 (by decide))
    refine tVI (As := [.int 1, .int 20]) (rest := []) (i := 1) ⟨hx, hb, hml, hown, hts⟩ hK hE hP hD hS hA hAB (s_X3_readNumber_0 l B0 adK adV D cy ad fr0 tx rby x26 f hT (1 : Int32) (by omega) (20 : Int32) (by omega) _) (cwV 2 hts gX3_readStrand_X3_readNumber rfl rfl rfl (by decide +kernel) ⟨Nat.le_of_ble_eq_true rfl, Nat.le_of_ble_eq_true rfl⟩) (by decide) 3 e38 rfl rfl hl.1 rfl (Nat.le_of_ble_eq_true rfl) dX3_readStrand_79 ⟨Nat.le_of_ble_eq_true rfl, Nat.le_of_ble_eq_true rfl⟩ (fun r f H locs hw hP hD hS => ?_)
    obtain ⟨hrs, x39, hT⟩ := hw
    obtain ⟨x40, rfl⟩ : ∃ q, q = r := ⟨_, rfl⟩
    have h41 := hrs
    refine lv_istore_n (lv' := [(3, .int x40), (2, .int v64_l2), (1, .int v64_l1), (0, .ref (ad 1))]) hx hb dX3_readStrand_82 rfl hl (by decide) rfl (fun ls hl => ?_)
    refine lv_aload_n hx hb dX3_readStrand_83 rfl (lv_at hl 3 rfl) ?_
    obtain ⟨x42, x43, t45, x47, x49, x50, x51, y52, e53, h44, h46, h48⟩ := (show okX3 ad rby x39 1 (f 1) from hT.1 1 (by decide))
    refine va_get (D := D) (cl := vwCl) (ci := 3) (v := .int x42) (C := RX3) (T := TX3) (N := 13) hx hb hts in_X3_readStrand_X3 hown hK hP 1 (wl_at (by decide) e53) rfl 0 (by decide) (hts (.fieldLink RX3 55 "EightReasons$Reader" "fault" "I") (List.mem_of_getElem? (i := 4) rfl)) (fun _ h9 => h9) rfl dX3_readStrand_84 ?_
    have ttl_0 := tl_0
    refine lv_if_ne (tgt := 100) hx hb dX3_readStrand_87 (by decide) (fun c54 => ?_) (fun c54 => ?_)
    · have kc54 := c_ne c54
      exact tV hx hb hr hlk hP hS ⟨trivial, ⟨x39, hT⟩⟩ dX3_readStrand_100
    · have kc54 := c_eq c54
      refine lv_aload_n hx hb dX3_readStrand_90 rfl (lv_at hl 3 rfl) ?_
      refine va_get (D := D) (cl := vwCl) (ci := 3) (v := .ref (ad t45)) (C := RX3) (T := TX3) (N := 13) hx hb hts in_X3_readStrand_X3 hown hK hP 1 (wl_at (by decide) e53) rfl 4 (by decide) (hts (.fieldLink RX3 22 "EightReasons$Reader" "suit" "LEightReasons$Suit;") (List.mem_of_getElem? (i := 1) rfl)) (fun _ h9 => h9) rfl dX3_readStrand_91 ?_
      refine lv_iload_n hx hb dX3_readStrand_94 rfl (lv_at hl 2 rfl) ?_
      refine lv_iload_n hx hb dX3_readStrand_95 rfl (lv_at hl 1 rfl) ?_
      refine lv_iload_n hx hb dX3_readStrand_96 rfl (lv_at hl 0 rfl) ?_
      obtain ⟨x55, x57, x58, x60, x61, e62, h56, h59⟩ := (ty_suit hT h46)
      refine tVV (As := [.int v64_l1, .int v64_l2, .int x40]) (rest := []) (i := t45) ⟨hx, hb, hml, hown, hts⟩ hK hE hP hD hS hA hAB (s_X5_addStrand_0 l B0 adK adV D cy ad fr0 tx rby x39 f hT t45 h46 v64_l1 (by omega) v64_l2 (by omega) x40 _) (cwV 3 hts gX3_readStrand_X5_addStrand rfl rfl rfl (by decide +kernel) ⟨Nat.le_of_ble_eq_true rfl, Nat.le_of_ble_eq_true rfl⟩) (x_lt (x_suit0 h46)) 5 e62 rfl rfl hl.1 rfl (Nat.le_of_ble_eq_true rfl) dX3_readStrand_97 ⟨Nat.le_of_ble_eq_true rfl, Nat.le_of_ble_eq_true rfl⟩ (fun f H locs hw hP hD hS => ?_)
      obtain ⟨hrs, hT⟩ := hw
      exact tV hx hb hr hlk hP hS ⟨trivial, ⟨x39, hT⟩⟩ dX3_readStrand_100
  have j18 : ∀ (f : Nat → va_E) (H : Heap) (locs : List Loc) (ls : Array Slot) (v18_s1 : Int32), (0 ≤ v18_s1.toInt ∧ v18_s1.toInt ≤ 1) → (TYx ad cy fr0 tx rby rnx f) → (va_P D vwCl (wl ad f) H) → (va_D A (wl ad f)) → (va_S A s.heap H locs) → (lv_has ls 4 [(0, .ref (ad 1))]) → W p l e (rmO 6 150 0 0) s m ([.ref (ad 1)] : List Value).toArray below meth c H locs 0 0 (MQ below (va_Qv (fun (g : Nat → va_E) => True ∧ (∃ (rnx' : Int32), TYx ad cy fr0 tx rby rnx' g)) (fun g t => PstT D ad g t) A) ([.ref (ad 1)] : List Value).toArray s 0 0 A) (F0 m 18 ls [.int v18_s1, .ref (ad 1)]) := by
    intro f H locs ls v18_s1 hv18_s1 hT hP hD hS hl
    obtain ⟨x63, x64, t66, x68, x70, x71, x72, y73, e74, h65, h67, h69⟩ := (show okX3 ad rby rnx 1 (f 1) from hT.1 1 (by decide))
    refine tVI (As := [.int v18_s1]) (rest := []) (i := 1) ⟨hx, hb, hml, hown, hts⟩ hK hE hP hD hS hA hAB (s_X3_begin_0 l B0 adK adV D cy ad fr0 tx rby rnx f hT v18_s1 (by omega) _) (cwV 1 hts gX3_readStrand_X3_begin rfl rfl rfl (by decide +kernel) ⟨Nat.le_of_ble_eq_true rfl, Nat.le_of_ble_eq_true rfl⟩) (by decide) 3 e74 rfl rfl hl.1 rfl (Nat.le_of_ble_eq_true rfl) dX3_readStrand_18 ⟨Nat.le_of_ble_eq_true rfl, Nat.le_of_ble_eq_true rfl⟩ (fun r f H locs hw hP hD hS => ?_)
    obtain ⟨hrs, x75, hT⟩ := hw
    obtain ⟨x76, rfl⟩ : ∃ q, q = r := ⟨_, rfl⟩
    rcases hrs with ⟨rfl, h77⟩ | ⟨rfl, h78⟩
    · refine lv_if_ne (tgt := 25) hx hb dX3_readStrand_21 (by decide) (fun _ => ?_) (fun c => absurd c (by decide))
      refine lv_aload_n hx hb dX3_readStrand_25 rfl (lv_at hl 0 rfl) ?_
      obtain ⟨x79, x80, t82, x84, x86, x87, x88, y89, e90, h81, h83, h85⟩ := (show okX3 ad rby x75 1 (f 1) from hT.1 1 (by decide))
      refine tVI (As := []) (rest := []) (i := 1) ⟨hx, hb, hml, hown, hts⟩ hK hE hP hD hS hA hAB (s_X3_pointNamed_0 l B0 adK adV D cy ad fr0 tx rby x75 f hT _) (cwV 0 hts gX3_readStrand_X3_pointNamed rfl rfl rfl (by decide +kernel) ⟨Nat.le_of_ble_eq_true rfl, Nat.le_of_ble_eq_true rfl⟩) (by decide) 3 e90 rfl rfl hl.1 rfl (Nat.le_of_ble_eq_true rfl) dX3_readStrand_26 ⟨Nat.le_of_ble_eq_true rfl, Nat.le_of_ble_eq_true rfl⟩ (fun r f H locs hw hP hD hS => ?_)
      obtain ⟨hrs, hT⟩ := hw
      obtain ⟨x91, rfl⟩ : ∃ q, q = r := ⟨_, rfl⟩
      have h92 := hrs
      refine lv_istore_n (lv' := [(1, .int x91), (0, .ref (ad 1))]) hx hb dX3_readStrand_29 rfl hl (by decide) rfl (fun ls hl => ?_)
      refine lv_aload_n hx hb dX3_readStrand_30 rfl (lv_at hl 1 rfl) ?_
      refine lv_bipush (v := 14) hx hb dX3_readStrand_31 (by decide) ?_
      have ttl_14 := tl_14
      obtain ⟨x93, x94, t96, x98, x100, x101, x102, y103, e104, h95, h97, h99⟩ := (show okX3 ad rby x75 1 (f 1) from hT.1 1 (by decide))
      refine tVV (As := [.int 14]) (rest := []) (i := 1) ⟨hx, hb, hml, hown, hts⟩ hK hE hP hD hS hA hAB (s_X3_expect_0 l B0 adK adV D cy ad fr0 tx rby x75 f hT (14 : Int32) (by omega) _) (cwV 1 hts gX3_readStrand_X3_expect rfl rfl rfl (by decide +kernel) ⟨Nat.le_of_ble_eq_true rfl, Nat.le_of_ble_eq_true rfl⟩) (by decide) 3 e104 rfl rfl hl.1 rfl (Nat.le_of_ble_eq_true rfl) dX3_readStrand_33 ⟨Nat.le_of_ble_eq_true rfl, Nat.le_of_ble_eq_true rfl⟩ (fun f H locs hw hP hD hS => ?_)
      obtain ⟨hrs, x105, hT⟩ := hw
      refine lv_aload_n hx hb dX3_readStrand_36 rfl (lv_at hl 1 rfl) ?_
      obtain ⟨x106, x107, t109, x111, x113, x114, x115, y116, e117, h108, h110, h112⟩ := (show okX3 ad rby x105 1 (f 1) from hT.1 1 (by decide))
      refine tVI (As := []) (rest := []) (i := 1) ⟨hx, hb, hml, hown, hts⟩ hK hE hP hD hS hA hAB (s_X3_pointNamed_0 l B0 adK adV D cy ad fr0 tx rby x105 f hT _) (cwV 0 hts gX3_readStrand_X3_pointNamed rfl rfl rfl (by decide +kernel) ⟨Nat.le_of_ble_eq_true rfl, Nat.le_of_ble_eq_true rfl⟩) (by decide) 3 e117 rfl rfl hl.1 rfl (Nat.le_of_ble_eq_true rfl) dX3_readStrand_37 ⟨Nat.le_of_ble_eq_true rfl, Nat.le_of_ble_eq_true rfl⟩ (fun r f H locs hw hP hD hS => ?_)
      obtain ⟨hrs, hT⟩ := hw
      obtain ⟨x118, rfl⟩ : ∃ q, q = r := ⟨_, rfl⟩
      have h119 := hrs
      refine lv_istore_n (lv' := [(2, .int x118), (1, .int x91), (0, .ref (ad 1))]) hx hb dX3_readStrand_40 rfl hl (by decide) rfl (fun ls hl => ?_)
      refine lv_aload_n hx hb dX3_readStrand_41 rfl (lv_at hl 2 rfl) ?_
      obtain ⟨x120, x121, t123, x125, x127, x128, x129, y130, e131, h122, h124, h126⟩ := (show okX3 ad rby x105 1 (f 1) from hT.1 1 (by decide))
      refine va_get (D := D) (cl := vwCl) (ci := 3) (v := .int x128) (C := RX3) (T := TX3) (N := 13) hx hb hts in_X3_readStrand_X3 hown hK hP 1 (wl_at (by decide) e131) rfl 10 (by decide) (hts (.fieldLink RX3 67 "EightReasons$Reader" "kind" "I") (List.mem_of_getElem? (i := 3) rfl)) (fun _ h9 => h9) rfl dX3_readStrand_42 ?_
      refine lv_bipush (v := 14) hx hb dX3_readStrand_45 (by decide) ?_
      refine lv_icmp_ne (tgt := 64) hx hb dX3_readStrand_47 (by decide) (fun c132 => ?_) (fun c132 => ?_)
      · have kc132 := c_ne c132
        exact j64 f H locs ls x118 x91 x105 (by omega) (by omega) hT hP hD hS (lv_sub hl [0, 1, 2] rfl)
      · have kc132 := c_eq c132
        refine lv_aload_n hx hb dX3_readStrand_50 rfl (lv_at hl 2 rfl) ?_
        refine lv_iload_n hx hb dX3_readStrand_51 rfl (lv_at hl 1 rfl) ?_
        refine lv_iload_n hx hb dX3_readStrand_52 rfl (lv_at hl 0 rfl) ?_
        refine tVI (As := [.int x91, .int x118]) (rest := []) (i := 1) ⟨hx, hb, hml, hown, hts⟩ hK hE hP hD hS hA hAB (s_X3_mayLead_0 l B0 adK adV D cy ad fr0 tx rby x105 f hT x91 (by omega) x118 (by omega) _) (cwV 2 hts gX3_readStrand_X3_mayLead rfl rfl rfl (by decide +kernel) ⟨Nat.le_of_ble_eq_true rfl, Nat.le_of_ble_eq_true rfl⟩) (by decide) 3 e131 rfl rfl hl.1 rfl (Nat.le_of_ble_eq_true rfl) dX3_readStrand_53 ⟨Nat.le_of_ble_eq_true rfl, Nat.le_of_ble_eq_true rfl⟩ (fun r g H locs hw hP hD hS => ?_)
        obtain ⟨hrs, rfl⟩ := hw
        obtain ⟨x133, rfl⟩ : ∃ q, q = r := ⟨_, rfl⟩
        rcases hrs with rfl | rfl
        · refine lv_if_ne (tgt := 64) hx hb dX3_readStrand_56 (by decide) (fun _ => ?_) (fun c => absurd c (by decide))
          exact j64 f H locs ls x118 x91 x105 (by omega) (by omega) hT hP hD hS (lv_sub hl [0, 1, 2] rfl)
        · refine lv_if_ne (tgt := 64) hx hb dX3_readStrand_56 (by decide) (fun c => absurd (by decide) c) (fun _ => ?_)
          refine lv_aload_n hx hb dX3_readStrand_59 rfl (lv_at hl 2 rfl) ?_
          refine lv_iconst (v := 3) hx hb dX3_readStrand_60 (by decide) ?_
          have ttl_3 := tl_3
          refine tVV (As := [.int 3]) (rest := []) (i := 1) ⟨hx, hb, hml, hown, hts⟩ hK hE hP hD hS hA hAB (s_X3_blame_0 l B0 adK adV D cy ad fr0 tx rby x105 f hT (3 : Int32) (by omega) _) (cwV 1 hts gX3_readStrand_X3_blame rfl rfl rfl (by decide +kernel) ⟨Nat.le_of_ble_eq_true rfl, Nat.le_of_ble_eq_true rfl⟩) (by decide) 3 e131 rfl rfl hl.1 rfl (Nat.le_of_ble_eq_true rfl) dX3_readStrand_61 ⟨Nat.le_of_ble_eq_true rfl, Nat.le_of_ble_eq_true rfl⟩ (fun f H locs hw hP hD hS => ?_)
          obtain ⟨hrs, hT⟩ := hw
          exact j64 f H locs ls x118 x91 x105 (by omega) (by omega) hT hP hD hS (lv_sub hl [0, 1, 2] rfl)
    · refine lv_if_ne (tgt := 25) hx hb dX3_readStrand_21 (by decide) (fun c => absurd (by decide) c) (fun _ => ?_)
      exact tV hx hb hr hlk hP hS ⟨trivial, ⟨x75, hT⟩⟩ dX3_readStrand_24
  refine lv_aload_n hx hb dX3_readStrand_0 rfl (lv_at hl 0 rfl) ?_
  refine lv_aload_n hx hb dX3_readStrand_1 rfl (lv_at hl 0 rfl) ?_
  obtain ⟨x134, x135, t137, x139, x141, x142, x143, y144, e145, h136, h138, h140⟩ := (show okX3 ad rby rnx 1 (f 1) from hT.1 1 (by decide))
  refine va_get (D := D) (cl := vwCl) (ci := 3) (v := .ref (ad t137)) (C := RX3) (T := TX3) (N := 13) hx hb hts in_X3_readStrand_X3 hown hK hP 1 (wl_at (by decide) e145) rfl 4 (by decide) (hts (.fieldLink RX3 22 "EightReasons$Reader" "suit" "LEightReasons$Suit;") (List.mem_of_getElem? (i := 1) rfl)) (fun _ h9 => h9) rfl dX3_readStrand_2 ?_
  obtain ⟨x146, x148, x149, x151, x152, e153, h147, h150⟩ := (ty_suit hT h138)
  refine va_get (D := D) (cl := vwCl) (ci := 5) (v := .int x149) (C := RX5) (T := TX5) (N := 12) hx hb hts in_X3_readStrand_X5 hown hK hP t137 (wl_at (x_lt (x_suit0 h138)) e153) rfl 2 (by decide) (hts (.fieldLink RX3 159 "EightReasons$Suit" "strands" "I") (List.mem_of_getElem? (i := 2) rfl)) (fun _ h9 => h9) rfl dX3_readStrand_5 ?_
  refine lv_bipush (v := 12) hx hb dX3_readStrand_8 (by decide) ?_
  have ttl_12 := tl_12
  refine lv_icmp_ge (tgt := 17) hx hb dX3_readStrand_10 (by decide) (fun c154 => ?_) (fun c154 => ?_)
  · have kc154 := c_le c154
    refine lv_iconst (v := 0) hx hb dX3_readStrand_17 (by decide) ?_
    have ttl_0 := tl_0
    exact j18 f H locs ls (0 : Int32) (by omega) hT hP hD hS (lv_sub hl [0] rfl)
  · have kc154 := c_nle c154
    refine lv_iconst (v := 1) hx hb dX3_readStrand_13 (by decide) ?_
    refine lv_goto (tgt := 18) hx hb dX3_readStrand_14 (by decide) ?_
    have ttl_1 := tl_1
    exact j18 f H locs ls (1 : Int32) (by omega) hT hP hD hS (lv_sub hl [0] rfl)
set_option maxHeartbeats 4000000 in
set_option maxRecDepth 100000 in
theorem s_X3_readLine_0 (l : Launch) (B0 : Nat) (adK adV : Nat → Nat) (D : va_G) (cy : Nat → ClassId) (ad : Nat → Nat) (fr0 : Nat → va_E) (tx : Int32) (rby : Int32) (rnx : Int32) (f : Nat → va_E) (hT : TYx ad cy fr0 tx rby rnx f) (sz : Nat) : TtV l yX3_readLine wsX3_readLine 54 1244 [.ref (ad 1)] B0 adK adV D cy ad f sz (fun (g : Nat → va_E) => True ∧ (∃ (rnx' : Int32), TYx ad cy fr0 tx rby rnx' g)) := by
  refine TtV.of (cc := cX3_readLine) (maxL := 1) (own := RX3) (by decide) rfl (Nat.le_of_ble_eq_true rfl) rfl ?_
  intro p e s m below meth c A ls hx hb hr hml hts hown hlk hK hE hP hD hS hA hAB hl
  have hl : lv_has ls 1 [(0, .ref (ad 1))] := hl
  refine st0 (fun H locs hP hS => ?_) hP hS
  have j153 : ∀ (f : Nat → va_E) (H : Heap) (locs : List Loc) (ls : Array Slot) (v153_p_rnx : Int32), (TYx ad cy fr0 tx rby v153_p_rnx f) → (va_P D vwCl (wl ad f) H) → (va_D A (wl ad f)) → (va_S A s.heap H locs) → (lv_has ls 1 [(0, .ref (ad 1))]) → W p l e (rmO 54 1244 0 0) s m ([.ref (ad 1)] : List Value).toArray below meth c H locs 0 0 (MQ below (va_Qv (fun (g : Nat → va_E) => True ∧ (∃ (rnx' : Int32), TYx ad cy fr0 tx rby rnx' g)) (fun g t => PstT D ad g t) A) ([.ref (ad 1)] : List Value).toArray s 0 0 A) (F0 m 153 ls []) := by
    intro f H locs ls v153_p_rnx hT hP hD hS hl
    refine lv_aload_n hx hb dX3_readLine_153 rfl (lv_at hl 0 rfl) ?_
    refine lv_bipush (v := 59) hx hb dX3_readLine_154 (by decide) ?_
    have ttl_59 := tl_59
    obtain ⟨x1, x2, t4, x6, x8, x9, x10, y11, e12, h3, h5, h7⟩ := (show okX3 ad rby v153_p_rnx 1 (f 1) from hT.1 1 (by decide))
    refine tVV (As := [.int 59]) (rest := []) (i := 1) ⟨hx, hb, hml, hown, hts⟩ hK hE hP hD hS hA hAB (s_X3_expect_0 l B0 adK adV D cy ad fr0 tx rby v153_p_rnx f hT (59 : Int32) (by omega) _) (cwV 1 hts gX3_readLine_X3_expect rfl rfl rfl (by decide +kernel) ⟨Nat.le_of_ble_eq_true rfl, Nat.le_of_ble_eq_true rfl⟩) (by decide) 3 e12 rfl rfl hl.1 rfl (Nat.le_of_ble_eq_true rfl) dX3_readLine_156 ⟨Nat.le_of_ble_eq_true rfl, Nat.le_of_ble_eq_true rfl⟩ (fun f H locs hw hP hD hS => ?_)
    obtain ⟨hrs, x13, hT⟩ := hw
    exact tV hx hb hr hlk hP hS ⟨trivial, ⟨x13, hT⟩⟩ dX3_readLine_159
  refine lv_aload_n hx hb dX3_readLine_0 rfl (lv_at hl 0 rfl) ?_
  obtain ⟨x14, x15, t17, x19, x21, x22, x23, y24, e25, h16, h18, h20⟩ := (show okX3 ad rby rnx 1 (f 1) from hT.1 1 (by decide))
  refine va_get (D := D) (cl := vwCl) (ci := 3) (v := .int x22) (C := RX3) (T := TX3) (N := 13) hx hb hts in_X3_readLine_X3 hown hK hP 1 (wl_at (by decide) e25) rfl 10 (by decide) (hts (.fieldLink RX3 67 "EightReasons$Reader" "kind" "I") (List.mem_of_getElem? (i := 1) rfl)) (fun _ h9 => h9) rfl dX3_readLine_1 ?_
  rcases sw_0_7 x22 with c26 | c26 | c26 | c26 | c26 | c26 | c26 | c26 | c26
  · refine lv_tableOut (tgt := 149) hx hb dX3_readLine_4 c26 (by decide) ?_
    refine lv_aload_n hx hb dX3_readLine_149 rfl (lv_at hl 0 rfl) ?_
    refine tVV (As := []) (rest := []) (i := 1) ⟨hx, hb, hml, hown, hts⟩ hK hE hP hD hS hA hAB (s_X3_refuse_0 l B0 adK adV D cy ad fr0 tx rby rnx f hT _) (cwV 0 hts gX3_readLine_X3_refuse rfl rfl rfl (by decide +kernel) ⟨Nat.le_of_ble_eq_true rfl, Nat.le_of_ble_eq_true rfl⟩) (by decide) 3 e25 rfl rfl hl.1 rfl (Nat.le_of_ble_eq_true rfl) dX3_readLine_150 ⟨Nat.le_of_ble_eq_true rfl, Nat.le_of_ble_eq_true rfl⟩ (fun f H locs hw hP hD hS => ?_)
    obtain ⟨hrs, hT⟩ := hw
    exact j153 f H locs ls rnx hT hP hD hS (lv_sub hl [0] rfl)
  · have kc26 := (c_eq c26).trans tl_0
    refine lv_tableIn (off := 48) (tgt := 52) hx hb dX3_readLine_4 (by rw [kc26]; decide) (by rw [kc26]; decide) (by rw [kc26]; decide) (by decide) ?_
    refine lv_aload_n hx hb dX3_readLine_52 rfl (lv_at hl 0 rfl) ?_
    refine tVV (As := []) (rest := []) (i := 1) ⟨hx, hb, hml, hown, hts⟩ hK hE hP hD hS hA hAB (s_X3_readFact_0 l B0 adK adV D cy ad fr0 tx rby rnx f hT _) (cwV 0 hts gX3_readLine_X3_readFact rfl rfl rfl (by decide +kernel) ⟨Nat.le_of_ble_eq_true rfl, Nat.le_of_ble_eq_true rfl⟩) (by decide) 3 e25 rfl rfl hl.1 rfl (Nat.le_of_ble_eq_true rfl) dX3_readLine_53 ⟨Nat.le_of_ble_eq_true rfl, Nat.le_of_ble_eq_true rfl⟩ (fun f H locs hw hP hD hS => ?_)
    obtain ⟨hrs, x27, hT⟩ := hw
    refine lv_goto (tgt := 153) hx hb dX3_readLine_56 (by decide) ?_
    exact j153 f H locs ls x27 hT hP hD hS (lv_sub hl [0] rfl)
  · have kc26 := (c_eq c26).trans tl_1
    refine lv_tableIn (off := 55) (tgt := 59) hx hb dX3_readLine_4 (by rw [kc26]; decide) (by rw [kc26]; decide) (by rw [kc26]; decide) (by decide) ?_
    refine lv_aload_n hx hb dX3_readLine_59 rfl (lv_at hl 0 rfl) ?_
    refine tVV (As := []) (rest := []) (i := 1) ⟨hx, hb, hml, hown, hts⟩ hK hE hP hD hS hA hAB (s_X3_readClaim_0 l B0 adK adV D cy ad fr0 tx rby rnx f hT _) (cwV 0 hts gX3_readLine_X3_readClaim rfl rfl rfl (by decide +kernel) ⟨Nat.le_of_ble_eq_true rfl, Nat.le_of_ble_eq_true rfl⟩) (by decide) 3 e25 rfl rfl hl.1 rfl (Nat.le_of_ble_eq_true rfl) dX3_readLine_60 ⟨Nat.le_of_ble_eq_true rfl, Nat.le_of_ble_eq_true rfl⟩ (fun f H locs hw hP hD hS => ?_)
    obtain ⟨hrs, x28, hT⟩ := hw
    refine lv_goto (tgt := 153) hx hb dX3_readLine_63 (by decide) ?_
    exact j153 f H locs ls x28 hT hP hD hS (lv_sub hl [0] rfl)
  · have kc26 := (c_eq c26).trans tl_2
    refine lv_tableIn (off := 145) (tgt := 149) hx hb dX3_readLine_4 (by rw [kc26]; decide) (by rw [kc26]; decide) (by rw [kc26]; decide) (by decide) ?_
    refine lv_aload_n hx hb dX3_readLine_149 rfl (lv_at hl 0 rfl) ?_
    refine tVV (As := []) (rest := []) (i := 1) ⟨hx, hb, hml, hown, hts⟩ hK hE hP hD hS hA hAB (s_X3_refuse_0 l B0 adK adV D cy ad fr0 tx rby rnx f hT _) (cwV 0 hts gX3_readLine_X3_refuse rfl rfl rfl (by decide +kernel) ⟨Nat.le_of_ble_eq_true rfl, Nat.le_of_ble_eq_true rfl⟩) (by decide) 3 e25 rfl rfl hl.1 rfl (Nat.le_of_ble_eq_true rfl) dX3_readLine_150 ⟨Nat.le_of_ble_eq_true rfl, Nat.le_of_ble_eq_true rfl⟩ (fun f H locs hw hP hD hS => ?_)
    obtain ⟨hrs, hT⟩ := hw
    exact j153 f H locs ls rnx hT hP hD hS (lv_sub hl [0] rfl)
  · have kc26 := (c_eq c26).trans tl_3
    refine lv_tableIn (off := 62) (tgt := 66) hx hb dX3_readLine_4 (by rw [kc26]; decide) (by rw [kc26]; decide) (by rw [kc26]; decide) (by decide) ?_
    refine lv_aload_n hx hb dX3_readLine_66 rfl (lv_at hl 0 rfl) ?_
    refine tVV (As := []) (rest := []) (i := 1) ⟨hx, hb, hml, hown, hts⟩ hK hE hP hD hS hA hAB (s_X3_readStrand_0 l B0 adK adV D cy ad fr0 tx rby rnx f hT _) (cwV 0 hts gX3_readLine_X3_readStrand rfl rfl rfl (by decide +kernel) ⟨Nat.le_of_ble_eq_true rfl, Nat.le_of_ble_eq_true rfl⟩) (by decide) 3 e25 rfl rfl hl.1 rfl (Nat.le_of_ble_eq_true rfl) dX3_readLine_67 ⟨Nat.le_of_ble_eq_true rfl, Nat.le_of_ble_eq_true rfl⟩ (fun f H locs hw hP hD hS => ?_)
    obtain ⟨hrs, x29, hT⟩ := hw
    refine lv_goto (tgt := 153) hx hb dX3_readLine_70 (by decide) ?_
    exact j153 f H locs ls x29 hT hP hD hS (lv_sub hl [0] rfl)
  · have kc26 := (c_eq c26).trans tl_4
    refine lv_tableIn (off := 145) (tgt := 149) hx hb dX3_readLine_4 (by rw [kc26]; decide) (by rw [kc26]; decide) (by rw [kc26]; decide) (by decide) ?_
    refine lv_aload_n hx hb dX3_readLine_149 rfl (lv_at hl 0 rfl) ?_
    refine tVV (As := []) (rest := []) (i := 1) ⟨hx, hb, hml, hown, hts⟩ hK hE hP hD hS hA hAB (s_X3_refuse_0 l B0 adK adV D cy ad fr0 tx rby rnx f hT _) (cwV 0 hts gX3_readLine_X3_refuse rfl rfl rfl (by decide +kernel) ⟨Nat.le_of_ble_eq_true rfl, Nat.le_of_ble_eq_true rfl⟩) (by decide) 3 e25 rfl rfl hl.1 rfl (Nat.le_of_ble_eq_true rfl) dX3_readLine_150 ⟨Nat.le_of_ble_eq_true rfl, Nat.le_of_ble_eq_true rfl⟩ (fun f H locs hw hP hD hS => ?_)
    obtain ⟨hrs, hT⟩ := hw
    exact j153 f H locs ls rnx hT hP hD hS (lv_sub hl [0] rfl)
  · have kc26 := (c_eq c26).trans tl_5
    refine lv_tableIn (off := 69) (tgt := 73) hx hb dX3_readLine_4 (by rw [kc26]; decide) (by rw [kc26]; decide) (by rw [kc26]; decide) (by decide) ?_
    refine lv_aload_n hx hb dX3_readLine_73 rfl (lv_at hl 0 rfl) ?_
    refine lv_aload_n hx hb dX3_readLine_74 rfl (lv_at hl 0 rfl) ?_
    refine tVI (As := []) (rest := [.ref (ad 1)]) (i := 1) ⟨hx, hb, hml, hown, hts⟩ hK hE hP hD hS hA hAB (s_X3_isFirst_0 l B0 adK adV D cy ad fr0 tx rby rnx f hT _) (cwV 0 hts gX3_readLine_X3_isFirst rfl rfl rfl (by decide +kernel) ⟨Nat.le_of_ble_eq_true rfl, Nat.le_of_ble_eq_true rfl⟩) (by decide) 3 e25 rfl rfl hl.1 rfl (Nat.le_of_ble_eq_true rfl) dX3_readLine_75 ⟨Nat.le_of_ble_eq_true rfl, Nat.le_of_ble_eq_true rfl⟩ (fun r f H locs hw hP hD hS => ?_)
    obtain ⟨hrs, hT⟩ := hw
    obtain ⟨x30, rfl⟩ : ∃ q, q = r := ⟨_, rfl⟩
    rcases hrs with rfl | rfl
    · have ttl_1 := tl_1
      obtain ⟨x31, x32, t34, x36, x38, x39, x40, y41, e42, h33, h35, h37⟩ := (show okX3 ad rby rnx 1 (f 1) from hT.1 1 (by decide))
      refine tVI (As := [.int 1]) (rest := []) (i := 1) ⟨hx, hb, hml, hown, hts⟩ hK hE hP hD hS hA hAB (s_X3_begin_0 l B0 adK adV D cy ad fr0 tx rby rnx f hT (1 : Int32) (by omega) _) (cwV 1 hts gX3_readLine_X3_begin rfl rfl rfl (by decide +kernel) ⟨Nat.le_of_ble_eq_true rfl, Nat.le_of_ble_eq_true rfl⟩) (by decide) 3 e42 rfl rfl hl.1 rfl (Nat.le_of_ble_eq_true rfl) dX3_readLine_78 ⟨Nat.le_of_ble_eq_true rfl, Nat.le_of_ble_eq_true rfl⟩ (fun r f H locs hw hP hD hS => ?_)
      obtain ⟨hrs, x43, hT⟩ := hw
      obtain ⟨x44, rfl⟩ : ∃ q, q = r := ⟨_, rfl⟩
      rcases hrs with ⟨rfl, h45⟩ | ⟨rfl, h46⟩
      · refine lv_if_eq (tgt := 153) hx hb dX3_readLine_81 (by decide) (fun c => absurd c (by decide)) (fun _ => ?_)
        refine lv_aload_n hx hb dX3_readLine_84 rfl (lv_at hl 0 rfl) ?_
        refine lv_iconst (v := 0) hx hb dX3_readLine_85 (by decide) ?_
        have ttl_0 := tl_0
        obtain ⟨x47, x48, t50, x52, x54, x55, x56, y57, e58, h49, h51, h53⟩ := (show okX3 ad rby x43 1 (f 1) from hT.1 1 (by decide))
        refine tVV (As := [.int 0]) (rest := []) (i := 1) ⟨hx, hb, hml, hown, hts⟩ hK hE hP hD hS hA hAB (s_X3_readEither_7 l B0 adK adV D cy ad fr0 tx rby x43 f hT _) (cwV 1 hts gX3_readLine_X3_readEither rfl rfl rfl (by decide +kernel) ⟨Nat.le_of_ble_eq_true rfl, Nat.le_of_ble_eq_true rfl⟩) (by decide) 3 e58 rfl rfl hl.1 rfl (Nat.le_of_ble_eq_true rfl) dX3_readLine_86 ⟨Nat.le_of_ble_eq_true rfl, Nat.le_of_ble_eq_true rfl⟩ (fun f H locs hw hP hD hS => ?_)
        obtain ⟨hrs, x59, hT⟩ := hw
        refine lv_goto (tgt := 153) hx hb dX3_readLine_89 (by decide) ?_
        exact j153 f H locs ls x59 hT hP hD hS (lv_sub hl [0] rfl)
      · exact False.elim (by omega)
    · have ttl_0 := tl_0
      obtain ⟨x60, x61, t63, x65, x67, x68, x69, y70, e71, h62, h64, h66⟩ := (show okX3 ad rby rnx 1 (f 1) from hT.1 1 (by decide))
      refine tVI (As := [.int 0]) (rest := []) (i := 1) ⟨hx, hb, hml, hown, hts⟩ hK hE hP hD hS hA hAB (s_X3_begin_0 l B0 adK adV D cy ad fr0 tx rby rnx f hT (0 : Int32) (by omega) _) (cwV 1 hts gX3_readLine_X3_begin rfl rfl rfl (by decide +kernel) ⟨Nat.le_of_ble_eq_true rfl, Nat.le_of_ble_eq_true rfl⟩) (by decide) 3 e71 rfl rfl hl.1 rfl (Nat.le_of_ble_eq_true rfl) dX3_readLine_78 ⟨Nat.le_of_ble_eq_true rfl, Nat.le_of_ble_eq_true rfl⟩ (fun r f H locs hw hP hD hS => ?_)
      obtain ⟨hrs, x72, hT⟩ := hw
      obtain ⟨x73, rfl⟩ : ∃ q, q = r := ⟨_, rfl⟩
      rcases hrs with ⟨rfl, h74⟩ | ⟨rfl, h75⟩
      · exact False.elim (by omega)
      · refine lv_if_eq (tgt := 153) hx hb dX3_readLine_81 (by decide) (fun _ => ?_) (fun c => absurd (by decide) c)
        exact j153 f H locs ls x72 hT hP hD hS (lv_sub hl [0] rfl)
  · have kc26 := (c_eq c26).trans tl_6
    refine lv_tableIn (off := 88) (tgt := 92) hx hb dX3_readLine_4 (by rw [kc26]; decide) (by rw [kc26]; decide) (by rw [kc26]; decide) (by decide) ?_
    refine lv_aload_n hx hb dX3_readLine_92 rfl (lv_at hl 0 rfl) ?_
    refine lv_aload_n hx hb dX3_readLine_93 rfl (lv_at hl 0 rfl) ?_
    refine tVI (As := []) (rest := [.ref (ad 1)]) (i := 1) ⟨hx, hb, hml, hown, hts⟩ hK hE hP hD hS hA hAB (s_X3_isFirst_0 l B0 adK adV D cy ad fr0 tx rby rnx f hT _) (cwV 0 hts gX3_readLine_X3_isFirst rfl rfl rfl (by decide +kernel) ⟨Nat.le_of_ble_eq_true rfl, Nat.le_of_ble_eq_true rfl⟩) (by decide) 3 e25 rfl rfl hl.1 rfl (Nat.le_of_ble_eq_true rfl) dX3_readLine_94 ⟨Nat.le_of_ble_eq_true rfl, Nat.le_of_ble_eq_true rfl⟩ (fun r f H locs hw hP hD hS => ?_)
    obtain ⟨hrs, hT⟩ := hw
    obtain ⟨x76, rfl⟩ : ∃ q, q = r := ⟨_, rfl⟩
    rcases hrs with rfl | rfl
    · have ttl_1 := tl_1
      obtain ⟨x77, x78, t80, x82, x84, x85, x86, y87, e88, h79, h81, h83⟩ := (show okX3 ad rby rnx 1 (f 1) from hT.1 1 (by decide))
      refine tVI (As := [.int 1]) (rest := []) (i := 1) ⟨hx, hb, hml, hown, hts⟩ hK hE hP hD hS hA hAB (s_X3_begin_0 l B0 adK adV D cy ad fr0 tx rby rnx f hT (1 : Int32) (by omega) _) (cwV 1 hts gX3_readLine_X3_begin rfl rfl rfl (by decide +kernel) ⟨Nat.le_of_ble_eq_true rfl, Nat.le_of_ble_eq_true rfl⟩) (by decide) 3 e88 rfl rfl hl.1 rfl (Nat.le_of_ble_eq_true rfl) dX3_readLine_97 ⟨Nat.le_of_ble_eq_true rfl, Nat.le_of_ble_eq_true rfl⟩ (fun r f H locs hw hP hD hS => ?_)
      obtain ⟨hrs, x89, hT⟩ := hw
      obtain ⟨x90, rfl⟩ : ∃ q, q = r := ⟨_, rfl⟩
      rcases hrs with ⟨rfl, h91⟩ | ⟨rfl, h92⟩
      · refine lv_if_eq (tgt := 153) hx hb dX3_readLine_100 (by decide) (fun c => absurd c (by decide)) (fun _ => ?_)
        refine lv_aload_n hx hb dX3_readLine_103 rfl (lv_at hl 0 rfl) ?_
        obtain ⟨x93, x94, t96, x98, x100, x101, x102, y103, e104, h95, h97, h99⟩ := (show okX3 ad rby x89 1 (f 1) from hT.1 1 (by decide))
        refine va_get (D := D) (cl := vwCl) (ci := 3) (v := .ref (ad t96)) (C := RX3) (T := TX3) (N := 13) hx hb hts in_X3_readLine_X3 hown hK hP 1 (wl_at (by decide) e104) rfl 4 (by decide) (hts (.fieldLink RX3 22 "EightReasons$Reader" "suit" "LEightReasons$Suit;") (List.mem_of_getElem? (i := 2) rfl)) (fun _ h9 => h9) rfl dX3_readLine_104 ?_
        refine lv_aload_n hx hb dX3_readLine_107 rfl (lv_at hl 0 rfl) ?_
        refine lv_iconst (v := 0) hx hb dX3_readLine_108 (by decide) ?_
        refine lv_bipush (v := 100) hx hb dX3_readLine_109 (by decide) ?_
        have ttl_0 := tl_0
        have ttl_100 := tl_100
        refine tVI (As := [.int 0, .int 100]) (rest := [.ref (ad t96)]) (i := 1) ⟨hx, hb, hml, hown, hts⟩ hK hE hP hD hS hA hAB (s_X3_readNumber_0 l B0 adK adV D cy ad fr0 tx rby x89 f hT (0 : Int32) (by omega) (100 : Int32) (by omega) _) (cwV 2 hts gX3_readLine_X3_readNumber rfl rfl rfl (by decide +kernel) ⟨Nat.le_of_ble_eq_true rfl, Nat.le_of_ble_eq_true rfl⟩) (by decide) 3 e104 rfl rfl hl.1 rfl (Nat.le_of_ble_eq_true rfl) dX3_readLine_111 ⟨Nat.le_of_ble_eq_true rfl, Nat.le_of_ble_eq_true rfl⟩ (fun r f H locs hw hP hD hS => ?_)
        obtain ⟨hrs, x105, hT⟩ := hw
        obtain ⟨x106, rfl⟩ : ∃ q, q = r := ⟨_, rfl⟩
        have h107 := hrs
        obtain ⟨x108, x110, x111, x113, x114, e115, h109, h112⟩ := (ty_suit hT h97)
        refine va_put (D := D) (cl := vwCl) (ci := 5) (v := .int x106) (ty := tyX5 3) (C := RX5) (T := TX5) (N := 12) hx hb hts in_X3_readLine_X5 tyX5 tyX5_ok nmX5 hown hK hP hD hS t96 (wl_at (x_lt (x_suit0 h97)) e115) rfl 3 (by decide) (hts (.fieldLink RX3 136 "EightReasons$Suit" "fray" "I") (List.mem_of_getElem? (i := 3) rfl)) (fun _ h9 => h9) rfl (tyX5_ok 3 (by decide)) rfl rfl (Nat.le_of_ble_eq_true rfl) dX3_readLine_114 (fun H locs hP hD hS => ?_)
        obtain ⟨f, hT, hP, hD, e116, hj117⟩ := stU (x_lt (x_suit0 h97)) (TYx.up hT (x_suit0 h97) (ok_suit h97 ⟨x108, x110, x111, x106, x114, rfl, by omega, by omega⟩)) hP hD
        refine lv_goto (tgt := 153) hx hb dX3_readLine_117 (by decide) ?_
        exact j153 f H locs ls x105 hT hP hD hS (lv_sub hl [0] rfl)
      · exact False.elim (by omega)
    · have ttl_0 := tl_0
      obtain ⟨x118, x119, t121, x123, x125, x126, x127, y128, e129, h120, h122, h124⟩ := (show okX3 ad rby rnx 1 (f 1) from hT.1 1 (by decide))
      refine tVI (As := [.int 0]) (rest := []) (i := 1) ⟨hx, hb, hml, hown, hts⟩ hK hE hP hD hS hA hAB (s_X3_begin_0 l B0 adK adV D cy ad fr0 tx rby rnx f hT (0 : Int32) (by omega) _) (cwV 1 hts gX3_readLine_X3_begin rfl rfl rfl (by decide +kernel) ⟨Nat.le_of_ble_eq_true rfl, Nat.le_of_ble_eq_true rfl⟩) (by decide) 3 e129 rfl rfl hl.1 rfl (Nat.le_of_ble_eq_true rfl) dX3_readLine_97 ⟨Nat.le_of_ble_eq_true rfl, Nat.le_of_ble_eq_true rfl⟩ (fun r f H locs hw hP hD hS => ?_)
      obtain ⟨hrs, x130, hT⟩ := hw
      obtain ⟨x131, rfl⟩ : ∃ q, q = r := ⟨_, rfl⟩
      rcases hrs with ⟨rfl, h132⟩ | ⟨rfl, h133⟩
      · exact False.elim (by omega)
      · refine lv_if_eq (tgt := 153) hx hb dX3_readLine_100 (by decide) (fun _ => ?_) (fun c => absurd (by decide) c)
        exact j153 f H locs ls x130 hT hP hD hS (lv_sub hl [0] rfl)
  · have kc26 := (c_eq c26).trans tl_7
    refine lv_tableIn (off := 116) (tgt := 120) hx hb dX3_readLine_4 (by rw [kc26]; decide) (by rw [kc26]; decide) (by rw [kc26]; decide) (by decide) ?_
    refine lv_aload_n hx hb dX3_readLine_120 rfl (lv_at hl 0 rfl) ?_
    refine lv_aload_n hx hb dX3_readLine_121 rfl (lv_at hl 0 rfl) ?_
    refine tVI (As := []) (rest := [.ref (ad 1)]) (i := 1) ⟨hx, hb, hml, hown, hts⟩ hK hE hP hD hS hA hAB (s_X3_isFirst_0 l B0 adK adV D cy ad fr0 tx rby rnx f hT _) (cwV 0 hts gX3_readLine_X3_isFirst rfl rfl rfl (by decide +kernel) ⟨Nat.le_of_ble_eq_true rfl, Nat.le_of_ble_eq_true rfl⟩) (by decide) 3 e25 rfl rfl hl.1 rfl (Nat.le_of_ble_eq_true rfl) dX3_readLine_122 ⟨Nat.le_of_ble_eq_true rfl, Nat.le_of_ble_eq_true rfl⟩ (fun r f H locs hw hP hD hS => ?_)
    obtain ⟨hrs, hT⟩ := hw
    obtain ⟨x134, rfl⟩ : ∃ q, q = r := ⟨_, rfl⟩
    rcases hrs with rfl | rfl
    · have ttl_1 := tl_1
      obtain ⟨x135, x136, t138, x140, x142, x143, x144, y145, e146, h137, h139, h141⟩ := (show okX3 ad rby rnx 1 (f 1) from hT.1 1 (by decide))
      refine tVI (As := [.int 1]) (rest := []) (i := 1) ⟨hx, hb, hml, hown, hts⟩ hK hE hP hD hS hA hAB (s_X3_begin_0 l B0 adK adV D cy ad fr0 tx rby rnx f hT (1 : Int32) (by omega) _) (cwV 1 hts gX3_readLine_X3_begin rfl rfl rfl (by decide +kernel) ⟨Nat.le_of_ble_eq_true rfl, Nat.le_of_ble_eq_true rfl⟩) (by decide) 3 e146 rfl rfl hl.1 rfl (Nat.le_of_ble_eq_true rfl) dX3_readLine_125 ⟨Nat.le_of_ble_eq_true rfl, Nat.le_of_ble_eq_true rfl⟩ (fun r f H locs hw hP hD hS => ?_)
      obtain ⟨hrs, x147, hT⟩ := hw
      obtain ⟨x148, rfl⟩ : ∃ q, q = r := ⟨_, rfl⟩
      rcases hrs with ⟨rfl, h149⟩ | ⟨rfl, h150⟩
      · refine lv_if_eq (tgt := 153) hx hb dX3_readLine_128 (by decide) (fun c => absurd c (by decide)) (fun _ => ?_)
        refine lv_aload_n hx hb dX3_readLine_131 rfl (lv_at hl 0 rfl) ?_
        obtain ⟨x151, x152, t154, x156, x158, x159, x160, y161, e162, h153, h155, h157⟩ := (show okX3 ad rby x147 1 (f 1) from hT.1 1 (by decide))
        refine va_get (D := D) (cl := vwCl) (ci := 3) (v := .ref (ad t154)) (C := RX3) (T := TX3) (N := 13) hx hb hts in_X3_readLine_X3 hown hK hP 1 (wl_at (by decide) e162) rfl 4 (by decide) (hts (.fieldLink RX3 22 "EightReasons$Reader" "suit" "LEightReasons$Suit;") (List.mem_of_getElem? (i := 2) rfl)) (fun _ h9 => h9) rfl dX3_readLine_132 ?_
        refine lv_aload_n hx hb dX3_readLine_135 rfl (lv_at hl 0 rfl) ?_
        refine lv_iconst (v := 0) hx hb dX3_readLine_136 (by decide) ?_
        refine lv_sipush (v := 999) hx hb dX3_readLine_137 (by decide) ?_
        have ttl_0 := tl_0
        have ttl_999 := tl_999
        refine tVI (As := [.int 0, .int 999]) (rest := [.ref (ad t154)]) (i := 1) ⟨hx, hb, hml, hown, hts⟩ hK hE hP hD hS hA hAB (s_X3_readNumber_0 l B0 adK adV D cy ad fr0 tx rby x147 f hT (0 : Int32) (by omega) (999 : Int32) (by omega) _) (cwV 2 hts gX3_readLine_X3_readNumber rfl rfl rfl (by decide +kernel) ⟨Nat.le_of_ble_eq_true rfl, Nat.le_of_ble_eq_true rfl⟩) (by decide) 3 e162 rfl rfl hl.1 rfl (Nat.le_of_ble_eq_true rfl) dX3_readLine_140 ⟨Nat.le_of_ble_eq_true rfl, Nat.le_of_ble_eq_true rfl⟩ (fun r f H locs hw hP hD hS => ?_)
        obtain ⟨hrs, x163, hT⟩ := hw
        obtain ⟨x164, rfl⟩ : ∃ q, q = r := ⟨_, rfl⟩
        have h165 := hrs
        obtain ⟨x166, x168, x169, x171, x172, e173, h167, h170⟩ := (ty_suit hT h155)
        refine va_put (D := D) (cl := vwCl) (ci := 5) (v := .int x164) (ty := tyX5 4) (C := RX5) (T := TX5) (N := 12) hx hb hts in_X3_readLine_X5 tyX5 tyX5_ok nmX5 hown hK hP hD hS t154 (wl_at (x_lt (x_suit0 h155)) e173) rfl 4 (by decide) (hts (.fieldLink RX3 139 "EightReasons$Suit" "draw" "I") (List.mem_of_getElem? (i := 4) rfl)) (fun _ h9 => h9) rfl (tyX5_ok 4 (by decide)) rfl rfl (Nat.le_of_ble_eq_true rfl) dX3_readLine_143 (fun H locs hP hD hS => ?_)
        obtain ⟨f, hT, hP, hD, e174, hj175⟩ := stU (x_lt (x_suit0 h155)) (TYx.up hT (x_suit0 h155) (ok_suit h155 ⟨x166, x168, x169, x171, x164, rfl, by omega, by omega⟩)) hP hD
        refine lv_goto (tgt := 153) hx hb dX3_readLine_146 (by decide) ?_
        exact j153 f H locs ls x163 hT hP hD hS (lv_sub hl [0] rfl)
      · exact False.elim (by omega)
    · have ttl_0 := tl_0
      obtain ⟨x176, x177, t179, x181, x183, x184, x185, y186, e187, h178, h180, h182⟩ := (show okX3 ad rby rnx 1 (f 1) from hT.1 1 (by decide))
      refine tVI (As := [.int 0]) (rest := []) (i := 1) ⟨hx, hb, hml, hown, hts⟩ hK hE hP hD hS hA hAB (s_X3_begin_0 l B0 adK adV D cy ad fr0 tx rby rnx f hT (0 : Int32) (by omega) _) (cwV 1 hts gX3_readLine_X3_begin rfl rfl rfl (by decide +kernel) ⟨Nat.le_of_ble_eq_true rfl, Nat.le_of_ble_eq_true rfl⟩) (by decide) 3 e187 rfl rfl hl.1 rfl (Nat.le_of_ble_eq_true rfl) dX3_readLine_125 ⟨Nat.le_of_ble_eq_true rfl, Nat.le_of_ble_eq_true rfl⟩ (fun r f H locs hw hP hD hS => ?_)
      obtain ⟨hrs, x188, hT⟩ := hw
      obtain ⟨x189, rfl⟩ : ∃ q, q = r := ⟨_, rfl⟩
      rcases hrs with ⟨rfl, h190⟩ | ⟨rfl, h191⟩
      · exact False.elim (by omega)
      · refine lv_if_eq (tgt := 153) hx hb dX3_readLine_128 (by decide) (fun _ => ?_) (fun c => absurd (by decide) c)
        exact j153 f H locs ls x188 hT hP hD hS (lv_sub hl [0] rfl)
set_option maxHeartbeats 4000000 in
set_option maxRecDepth 100000 in
theorem s_X5_clear_0 (l : Launch) (B0 : Nat) (adK adV : Nat → Nat) (D : va_G) (cy : Nat → ClassId) (ad : Nat → Nat) (fr0 : Nat → va_E) (tx : Int32) (rby : Int32) (rnx : Int32) (f : Nat → va_E) (hT : TYx ad cy fr0 tx rby rnx f) (q0 : Nat) (hq0 : isSuit q0) (sz : Nat) : TtV l yX5_clear wsX5_clear 0 0 [.ref (ad q0)] B0 adK adV D cy ad f sz (fun (g : Nat → va_E) => True ∧ (TYx ad cy fr0 tx rby rnx g)) := by
  refine TtV.of (cc := cX5_clear) (maxL := 1) (own := RX5) (by decide) rfl (Nat.le_of_ble_eq_true rfl) rfl ?_
  intro p e s m below meth c A ls hx hb hr hml hts hown hlk hK hE hP hD hS hA hAB hl
  have hl : lv_has ls 1 [(0, .ref (ad q0))] := hl
  refine st0 (fun H locs hP hS => ?_) hP hS
  refine lv_aload_n hx hb dX5_clear_0 rfl (lv_at hl 0 rfl) ?_
  refine lv_iconst (v := 0) hx hb dX5_clear_1 (by decide) ?_
  obtain ⟨x1, x3, x4, x6, x7, e8, h2, h5⟩ := (ty_suit hT hq0)
  refine va_put (D := D) (cl := vwCl) (ci := 5) (v := .int 0) (ty := tyX5 0) (C := RX5) (T := TX5) (N := 12) hx hb hts in_X5_clear_X5 tyX5 tyX5_ok nmX5 hown hK hP hD hS q0 (wl_at (x_lt (x_suit0 hq0)) e8) rfl 0 (by decide) (hts (.fieldLink RX5 37 "EightReasons$Suit" "points" "I") (List.mem_of_getElem? (i := 1) rfl)) (fun _ h9 => h9) rfl (tyX5_ok 0 (by decide)) rfl rfl (Nat.le_of_ble_eq_true rfl) dX5_clear_2 (fun H locs hP hD hS => ?_)
  have ttl_0 := tl_0
  obtain ⟨f, hT, hP, hD, e9, hj10⟩ := stU (x_lt (x_suit0 hq0)) (TYx.up hT (x_suit0 hq0) (ok_suit hq0 ⟨(0 : Int32), x3, x4, x6, x7, rfl, by omega, by omega⟩)) hP hD
  refine lv_aload_n hx hb dX5_clear_5 rfl (lv_at hl 0 rfl) ?_
  refine lv_iconst (v := 0) hx hb dX5_clear_6 (by decide) ?_
  refine va_put (D := D) (cl := vwCl) (ci := 5) (v := .int 0) (ty := tyX5 1) (C := RX5) (T := TX5) (N := 12) hx hb hts in_X5_clear_X5 tyX5 tyX5_ok nmX5 hown hK hP hD hS q0 (wl_at (x_lt (x_suit0 hq0)) e9) rfl 1 (by decide) (hts (.fieldLink RX5 41 "EightReasons$Suit" "facts" "I") (List.mem_of_getElem? (i := 2) rfl)) (fun _ h9 => h9) rfl (tyX5_ok 1 (by decide)) rfl rfl (Nat.le_of_ble_eq_true rfl) dX5_clear_7 (fun H locs hP hD hS => ?_)
  obtain ⟨f, hT, hP, hD, e11, hj12⟩ := stU (x_lt (x_suit0 hq0)) (TYx.up hT (x_suit0 hq0) (ok_suit hq0 ⟨(0 : Int32), (0 : Int32), x4, x6, x7, rfl, by omega, by omega⟩)) hP hD
  refine lv_aload_n hx hb dX5_clear_10 rfl (lv_at hl 0 rfl) ?_
  refine lv_iconst (v := 0) hx hb dX5_clear_11 (by decide) ?_
  refine va_put (D := D) (cl := vwCl) (ci := 5) (v := .int 0) (ty := tyX5 2) (C := RX5) (T := TX5) (N := 12) hx hb hts in_X5_clear_X5 tyX5 tyX5_ok nmX5 hown hK hP hD hS q0 (wl_at (x_lt (x_suit0 hq0)) e11) rfl 2 (by decide) (hts (.fieldLink RX5 44 "EightReasons$Suit" "strands" "I") (List.mem_of_getElem? (i := 3) rfl)) (fun _ h9 => h9) rfl (tyX5_ok 2 (by decide)) rfl rfl (Nat.le_of_ble_eq_true rfl) dX5_clear_12 (fun H locs hP hD hS => ?_)
  obtain ⟨f, hT, hP, hD, e13, hj14⟩ := stU (x_lt (x_suit0 hq0)) (TYx.up hT (x_suit0 hq0) (ok_suit hq0 ⟨(0 : Int32), (0 : Int32), (0 : Int32), x6, x7, rfl, by omega, by omega⟩)) hP hD
  refine lv_aload_n hx hb dX5_clear_15 rfl (lv_at hl 0 rfl) ?_
  refine lv_iconst (v := 0) hx hb dX5_clear_16 (by decide) ?_
  refine va_put (D := D) (cl := vwCl) (ci := 5) (v := .int 0) (ty := tyX5 3) (C := RX5) (T := TX5) (N := 12) hx hb hts in_X5_clear_X5 tyX5 tyX5_ok nmX5 hown hK hP hD hS q0 (wl_at (x_lt (x_suit0 hq0)) e13) rfl 3 (by decide) (hts (.fieldLink RX5 47 "EightReasons$Suit" "fray" "I") (List.mem_of_getElem? (i := 4) rfl)) (fun _ h9 => h9) rfl (tyX5_ok 3 (by decide)) rfl rfl (Nat.le_of_ble_eq_true rfl) dX5_clear_17 (fun H locs hP hD hS => ?_)
  obtain ⟨f, hT, hP, hD, e15, hj16⟩ := stU (x_lt (x_suit0 hq0)) (TYx.up hT (x_suit0 hq0) (ok_suit hq0 ⟨(0 : Int32), (0 : Int32), (0 : Int32), (0 : Int32), x7, rfl, by omega, by omega⟩)) hP hD
  refine lv_aload_n hx hb dX5_clear_20 rfl (lv_at hl 0 rfl) ?_
  refine lv_iconst (v := 0) hx hb dX5_clear_21 (by decide) ?_
  refine va_put (D := D) (cl := vwCl) (ci := 5) (v := .int 0) (ty := tyX5 4) (C := RX5) (T := TX5) (N := 12) hx hb hts in_X5_clear_X5 tyX5 tyX5_ok nmX5 hown hK hP hD hS q0 (wl_at (x_lt (x_suit0 hq0)) e15) rfl 4 (by decide) (hts (.fieldLink RX5 50 "EightReasons$Suit" "draw" "I") (List.mem_of_getElem? (i := 5) rfl)) (fun _ h9 => h9) rfl (tyX5_ok 4 (by decide)) rfl rfl (Nat.le_of_ble_eq_true rfl) dX5_clear_22 (fun H locs hP hD hS => ?_)
  obtain ⟨f, hT, hP, hD, e17, hj18⟩ := stU (x_lt (x_suit0 hq0)) (TYx.up hT (x_suit0 hq0) (ok_suit hq0 ⟨(0 : Int32), (0 : Int32), (0 : Int32), (0 : Int32), (0 : Int32), rfl, by omega, by omega⟩)) hP hD
  refine lv_aload_n hx hb dX5_clear_25 rfl (lv_at hl 0 rfl) ?_
  refine va_get (D := D) (cl := vwCl) (ci := 5) (v := .ref (ad (q0 + 7))) (C := RX5) (T := TX5) (N := 12) hx hb hts in_X5_clear_X5 hown hK hP q0 (wl_at (x_lt (x_suit0 hq0)) e17) rfl 11 (by decide) (hts (.fieldLink RX5 33 "EightReasons$Suit" "formula" "LEightReasons$Formula;") (List.mem_of_getElem? (i := 6) rfl)) (fun _ h9 => h9) rfl dX5_clear_26 ?_
  refine lv_iconst (v := 0) hx hb dX5_clear_29 (by decide) ?_
  obtain ⟨x19, x21, x22, e24, h20, h23⟩ := (ty_suit7 hT hq0)
  refine va_put (D := D) (cl := vwCl) (ci := 1) (v := .int 0) (ty := tyX1 1) (C := RX1) (T := TX1) (N := 6) hx hb hts in_X5_clear_X1 tyX1 tyX1_ok nmX1 hown hK hP hD hS (q0 + 7) (wl_at (x_lt (x_suit hq0 (by decide))) e24) rfl 1 (by decide) (hts (.fieldLink RX5 53 "EightReasons$Formula" "length" "I") (List.mem_of_getElem? (i := 7) rfl)) (fun _ h9 => h9) rfl (tyX1_ok 1 (by decide)) rfl rfl (Nat.le_of_ble_eq_true rfl) dX5_clear_30 (fun H locs hP hD hS => ?_)
  obtain ⟨f, hT, hP, hD, e25, hj26⟩ := stU (x_lt (x_suit hq0 (by decide))) (TYx.up hT (x_suit hq0 (by decide)) (ok_suit7 hq0 ⟨(0 : Int32), x21, x22, rfl, by omega, by omega⟩)) hP hD
  have e27 := (hj26 q0 (by omega)).trans e17
  refine lv_aload_n hx hb dX5_clear_33 rfl (lv_at hl 0 rfl) ?_
  refine va_get (D := D) (cl := vwCl) (ci := 5) (v := .ref (ad (q0 + 7))) (C := RX5) (T := TX5) (N := 12) hx hb hts in_X5_clear_X5 hown hK hP q0 (wl_at (x_lt (x_suit0 hq0)) e27) rfl 11 (by decide) (hts (.fieldLink RX5 33 "EightReasons$Suit" "formula" "LEightReasons$Formula;") (List.mem_of_getElem? (i := 6) rfl)) (fun _ h9 => h9) rfl dX5_clear_34 ?_
  refine lv_iconst (v := 0) hx hb dX5_clear_37 (by decide) ?_
  refine va_put (D := D) (cl := vwCl) (ci := 1) (v := .int 0) (ty := tyX1 2) (C := RX1) (T := TX1) (N := 6) hx hb hts in_X5_clear_X1 tyX1 tyX1_ok nmX1 hown hK hP hD hS (q0 + 7) (wl_at (x_lt (x_suit hq0 (by decide))) e25) rfl 2 (by decide) (hts (.fieldLink RX5 56 "EightReasons$Formula" "units" "I") (List.mem_of_getElem? (i := 8) rfl)) (fun _ h9 => h9) rfl (tyX1_ok 2 (by decide)) rfl rfl (Nat.le_of_ble_eq_true rfl) dX5_clear_38 (fun H locs hP hD hS => ?_)
  obtain ⟨f, hT, hP, hD, e28, hj29⟩ := stU (x_lt (x_suit hq0 (by decide))) (TYx.up hT (x_suit hq0 (by decide)) (ok_suit7 hq0 ⟨(0 : Int32), (0 : Int32), x22, rfl, by omega, by omega⟩)) hP hD
  have e30 := (hj29 q0 (by omega)).trans e27
  exact tV hx hb hr hlk hP hS ⟨trivial, hT⟩ dX5_clear_41
set_option maxHeartbeats 4000000 in
set_option maxRecDepth 100000 in
theorem s_X3_read_0 (l : Launch) (B0 : Nat) (adK adV : Nat → Nat) (D : va_G) (cy : Nat → ClassId) (ad : Nat → Nat) (fr0 : Nat → va_E) (tx : Int32) (rby : Int32) (rnx : Int32) (f : Nat → va_E) (hT : TYx ad cy fr0 tx rby rnx f) (sz : Nat) : TtI l yX3_read wsX3_read 55 1264 [.ref (ad 1)] B0 adK adV D cy ad f sz (fun (r : Int32) (g : Nat → va_E) => ((r = 1) ∨ (r = 0)) ∧ (∃ (rnx' : Int32), TYx ad cy fr0 tx rby rnx' g)) := by
  refine TtI.of (cc := cX3_read) (maxL := 2) (ty := .boolean) (own := RX3) (by decide) rfl (Nat.le_of_ble_eq_true rfl) rfl ?_
  intro p e s m below meth c A ls hx hb hr hml hts hown hlk hK hE hP hD hS hA hAB hl
  have hl : lv_has ls 2 [(0, .ref (ad 1))] := hl
  refine st0 (fun H locs hP hS => ?_) hP hS
  have j66 : ∀ (f : Nat → va_E) (H : Heap) (locs : List Loc) (ls : Array Slot) (v66_l1 : Int32) (v66_p_rnx : Int32), (0 ≤ v66_l1.toInt ∧ v66_l1.toInt ≤ 1601) → (TYx ad cy fr0 tx rby v66_p_rnx f) → (va_P D vwCl (wl ad f) H) → (va_D A (wl ad f)) → (va_S A s.heap H locs) → (lv_has ls 2 [(1, .int v66_l1), (0, .ref (ad 1))]) → W p l e (rmO 55 1264 0 0) s m ([.ref (ad 1)] : List Value).toArray below meth c H locs 0 0 (MQ below (va_Qi (fun (r : Int32) (g : Nat → va_E) => ((r = 1) ∨ (r = 0)) ∧ (∃ (rnx' : Int32), TYx ad cy fr0 tx rby rnx' g)) (fun g t => PstT D ad g t) A) ([.ref (ad 1)] : List Value).toArray s 0 0 A) (F0 m 66 ls []) := by
    intro f H locs ls v66_l1 v66_p_rnx hv66_l1 hT hP hD hS hl
    refine lv_aload_n hx hb dX3_read_66 rfl (lv_at hl 1 rfl) ?_
    obtain ⟨x1, x2, t4, x6, x8, x9, x10, y11, e12, h3, h5, h7⟩ := (show okX3 ad rby v66_p_rnx 1 (f 1) from hT.1 1 (by decide))
    refine va_get (D := D) (cl := vwCl) (ci := 3) (v := .int x1) (C := RX3) (T := TX3) (N := 13) hx hb hts in_X3_read_X3 hown hK hP 1 (wl_at (by decide) e12) rfl 0 (by decide) (hts (.fieldLink RX3 55 "EightReasons$Reader" "fault" "I") (List.mem_of_getElem? (i := 2) rfl)) (fun _ h9 => h9) rfl dX3_read_67 ?_
    have ttl_0 := tl_0
    refine lv_if_ne (tgt := 77) hx hb dX3_read_70 (by decide) (fun c13 => ?_) (fun c13 => ?_)
    · have kc13 := c_ne c13
      refine lv_iconst (v := 0) hx hb dX3_read_77 (by decide) ?_
      exact tI hx hb hr hlk rfl hP hS ⟨(Or.inr rfl), ⟨v66_p_rnx, hT⟩⟩ dX3_read_78
    · have kc13 := c_eq c13
      refine lv_iconst (v := 1) hx hb dX3_read_73 (by decide) ?_
      refine lv_goto (tgt := 78) hx hb dX3_read_74 (by decide) ?_
      have ttl_1 := tl_1
      exact tI hx hb hr hlk rfl hP hS ⟨(Or.inl rfl), ⟨v66_p_rnx, hT⟩⟩ dX3_read_78
  have j33 : ∀ (N : Nat) (f : Nat → va_E) (H : Heap) (locs : List Loc) (ls : Array Slot) (v33_l1 : Int32) (v33_p_rnx : Int32), (1602 - v33_l1.toInt ≤ (N : Int)) → (0 ≤ v33_l1.toInt ∧ v33_l1.toInt ≤ 1601) → (TYx ad cy fr0 tx rby v33_p_rnx f) → (va_P D vwCl (wl ad f) H) → (va_D A (wl ad f)) → (va_S A s.heap H locs) → (lv_has ls 2 [(1, .int v33_l1), (0, .ref (ad 1))]) → W p l e (rmO 55 1264 0 0) s m ([.ref (ad 1)] : List Value).toArray below meth c H locs 0 0 (MQ below (va_Qi (fun (r : Int32) (g : Nat → va_E) => ((r = 1) ∨ (r = 0)) ∧ (∃ (rnx' : Int32), TYx ad cy fr0 tx rby rnx' g)) (fun g t => PstT D ad g t) A) ([.ref (ad 1)] : List Value).toArray s 0 0 A) (F0 m 33 ls []) := by
    intro N
    induction N with
    | zero => intro f H locs ls v33_l1 v33_p_rnx hN hv33_l1 hT hP hD hS hl; exact absurd hN (by omega)
    | succ N ih33 =>
      intro f H locs ls v33_l1 v33_p_rnx hN hv33_l1 hT hP hD hS hl
      refine lv_iload_n hx hb dX3_read_33 rfl (lv_at hl 0 rfl) ?_
      refine lv_sipush (v := 1600) hx hb dX3_read_34 (by decide) ?_
      have ttl_1600 := tl_1600
      refine lv_icmp_gt (tgt := 66) hx hb dX3_read_37 (by decide) (fun c14 => ?_) (fun c14 => ?_)
      · have kc14 := c_lt c14
        exact j66 f H locs ls v33_l1 v33_p_rnx (by omega) hT hP hD hS (lv_sub hl [0, 1] rfl)
      · have kc14 := c_nlt c14
        refine lv_aload_n hx hb dX3_read_40 rfl (lv_at hl 1 rfl) ?_
        obtain ⟨x15, x16, t18, x20, x22, x23, x24, y25, e26, h17, h19, h21⟩ := (show okX3 ad rby v33_p_rnx 1 (f 1) from hT.1 1 (by decide))
        refine va_get (D := D) (cl := vwCl) (ci := 3) (v := .int x15) (C := RX3) (T := TX3) (N := 13) hx hb hts in_X3_read_X3 hown hK hP 1 (wl_at (by decide) e26) rfl 0 (by decide) (hts (.fieldLink RX3 55 "EightReasons$Reader" "fault" "I") (List.mem_of_getElem? (i := 2) rfl)) (fun _ h9 => h9) rfl dX3_read_41 ?_
        have ttl_0 := tl_0
        refine lv_if_ne (tgt := 66) hx hb dX3_read_44 (by decide) (fun c27 => ?_) (fun c27 => ?_)
        · have kc27 := c_ne c27
          exact j66 f H locs ls v33_l1 v33_p_rnx (by omega) hT hP hD hS (lv_sub hl [0, 1] rfl)
        · have kc27 := c_eq c27
          refine lv_aload_n hx hb dX3_read_47 rfl (lv_at hl 1 rfl) ?_
          refine va_get (D := D) (cl := vwCl) (ci := 3) (v := .int x23) (C := RX3) (T := TX3) (N := 13) hx hb hts in_X3_read_X3 hown hK hP 1 (wl_at (by decide) e26) rfl 10 (by decide) (hts (.fieldLink RX3 67 "EightReasons$Reader" "kind" "I") (List.mem_of_getElem? (i := 6) rfl)) (fun _ h9 => h9) rfl dX3_read_48 ?_
          refine lv_bipush (v := 16) hx hb dX3_read_51 (by decide) ?_
          have ttl_16 := tl_16
          refine lv_icmp_eq (tgt := 66) hx hb dX3_read_53 (by decide) (fun c28 => ?_) (fun c28 => ?_)
          · have kc28 := c_eq c28
            exact j66 f H locs ls v33_l1 v33_p_rnx (by omega) hT hP hD hS (lv_sub hl [0, 1] rfl)
          · have kc28 := c_ne c28
            refine lv_aload_n hx hb dX3_read_56 rfl (lv_at hl 1 rfl) ?_
            refine tVV (As := []) (rest := []) (i := 1) ⟨hx, hb, hml, hown, hts⟩ hK hE hP hD hS hA hAB (s_X3_readLine_0 l B0 adK adV D cy ad fr0 tx rby v33_p_rnx f hT _) (cwV 0 hts gX3_read_X3_readLine rfl rfl rfl (by decide +kernel) ⟨Nat.le_of_ble_eq_true rfl, Nat.le_of_ble_eq_true rfl⟩) (by decide) 3 e26 rfl rfl hl.1 rfl (Nat.le_of_ble_eq_true rfl) dX3_read_57 ⟨Nat.le_of_ble_eq_true rfl, Nat.le_of_ble_eq_true rfl⟩ (fun f H locs hw hP hD hS => ?_)
            obtain ⟨hrs, x29, hT⟩ := hw
            obtain ⟨x30, ex30⟩ : ∃ q : Int32, q = v33_l1 + Int32.ofInt (1) := ⟨_, rfl⟩
            refine lv_iinc (v := x30) (lv' := [(1, .int x30), (0, .ref (ad 1))]) hx hb dX3_read_60 hl (k := 0) rfl ex30.symm (by decide) rfl (fun ls hl => ?_)
            have hx30 := r_inc ex30 (by decide) (by omega) (by omega)
            refine lv_goto (tgt := 33) hx hb dX3_read_63 (by decide) ?_
            exact ih33 f H locs ls x30 x29 (by omega) (by omega) hT hP hD hS (lv_sub hl [0, 1] rfl)
  refine lv_aload_n hx hb dX3_read_0 rfl (lv_at hl 0 rfl) ?_
  obtain ⟨x31, x32, t34, x36, x38, x39, x40, y41, e42, h33, h35, h37⟩ := (show okX3 ad rby rnx 1 (f 1) from hT.1 1 (by decide))
  refine va_get (D := D) (cl := vwCl) (ci := 3) (v := .ref (ad t34)) (C := RX3) (T := TX3) (N := 13) hx hb hts in_X3_read_X3 hown hK hP 1 (wl_at (by decide) e42) rfl 4 (by decide) (hts (.fieldLink RX3 22 "EightReasons$Reader" "suit" "LEightReasons$Suit;") (List.mem_of_getElem? (i := 1) rfl)) (fun _ h9 => h9) rfl dX3_read_1 ?_
  obtain ⟨x43, x45, x46, x48, x49, e50, h44, h47⟩ := (ty_suit hT h35)
  refine tVV (As := []) (rest := []) (i := t34) ⟨hx, hb, hml, hown, hts⟩ hK hE hP hD hS hA hAB (s_X5_clear_0 l B0 adK adV D cy ad fr0 tx rby rnx f hT t34 h35 _) (cwV 0 hts gX3_read_X5_clear rfl rfl rfl (by decide +kernel) ⟨Nat.le_of_ble_eq_true rfl, Nat.le_of_ble_eq_true rfl⟩) (x_lt (x_suit0 h35)) 5 e50 rfl rfl hl.1 rfl (Nat.le_of_ble_eq_true rfl) dX3_read_4 ⟨Nat.le_of_ble_eq_true rfl, Nat.le_of_ble_eq_true rfl⟩ (fun f H locs hw hP hD hS => ?_)
  obtain ⟨hrs, hT⟩ := hw
  refine lv_aload_n hx hb dX3_read_7 rfl (lv_at hl 0 rfl) ?_
  refine lv_iconst (v := 0) hx hb dX3_read_8 (by decide) ?_
  obtain ⟨x51, x52, t54, x56, x58, x59, x60, y61, e62, h53, h55, h57⟩ := (show okX3 ad rby rnx 1 (f 1) from hT.1 1 (by decide))
  refine va_put (D := D) (cl := vwCl) (ci := 3) (v := .int 0) (ty := tyX3 0) (C := RX3) (T := TX3) (N := 13) hx hb hts in_X3_read_X3 tyX3 tyX3_ok nmX3 hown hK hP hD hS 1 (wl_at (by decide) e62) rfl 0 (by decide) (hts (.fieldLink RX3 55 "EightReasons$Reader" "fault" "I") (List.mem_of_getElem? (i := 2) rfl)) (fun _ h9 => h9) rfl (tyX3_ok 0 (by decide)) rfl rfl (Nat.le_of_ble_eq_true rfl) dX3_read_9 (fun H locs hP hD hS => ?_)
  obtain ⟨f, hT, hP, hD, e63, hj64⟩ := stU (by decide) (TYx.up hT (by decide) (show OKx ad cy tx rby rnx 1 _ from (show okX3 ad rby rnx 1 _ from ⟨(0 : Int32), x52, t54, x56, x58, x59, x60, y61, rfl, by omega, h55, by omega⟩))) hP hD
  refine lv_aload_n hx hb dX3_read_12 rfl (lv_at hl 0 rfl) ?_
  refine lv_iconst (v := (-1)) hx hb dX3_read_13 (by decide) ?_
  refine va_put (D := D) (cl := vwCl) (ci := 3) (v := .int (-1)) (ty := tyX3 1) (C := RX3) (T := TX3) (N := 13) hx hb hts in_X3_read_X3 tyX3 tyX3_ok nmX3 hown hK hP hD hS 1 (wl_at (by decide) e63) rfl 1 (by decide) (hts (.fieldLink RX3 9 "EightReasons$Reader" "place" "I") (List.mem_of_getElem? (i := 3) rfl)) (fun _ h9 => h9) rfl (tyX3_ok 1 (by decide)) rfl rfl (Nat.le_of_ble_eq_true rfl) dX3_read_14 (fun H locs hP hD hS => ?_)
  obtain ⟨f, hT, hP, hD, e65, hj66⟩ := stU (by decide) (TYx.up hT (by decide) (show OKx ad cy tx rby rnx 1 _ from (show okX3 ad rby rnx 1 _ from ⟨(0 : Int32), ((-1) : Int32), t54, x56, x58, x59, x60, y61, rfl, by omega, h55, by omega⟩))) hP hD
  refine lv_aload_n hx hb dX3_read_17 rfl (lv_at hl 0 rfl) ?_
  refine lv_iconst (v := 0) hx hb dX3_read_18 (by decide) ?_
  refine va_put (D := D) (cl := vwCl) (ci := 3) (v := .int 0) (ty := tyX3 7) (C := RX3) (T := TX3) (N := 13) hx hb hts in_X3_read_X3 tyX3 tyX3_ok nmX3 hown hK hP hD hS 1 (wl_at (by decide) e65) rfl 7 (by decide) (hts (.fieldLink RX3 58 "EightReasons$Reader" "once" "I") (List.mem_of_getElem? (i := 4) rfl)) (fun _ h9 => h9) rfl (tyX3_ok 7 (by decide)) rfl rfl (Nat.le_of_ble_eq_true rfl) dX3_read_19 (fun H locs hP hD hS => ?_)
  obtain ⟨f, hT, hP, hD, e67, hj68⟩ := stU (by decide) (TYx.up hT (by decide) (show OKx ad cy tx rby rnx 1 _ from (show okX3 ad rby rnx 1 _ from ⟨(0 : Int32), ((-1) : Int32), t54, (0 : Int32), x58, x59, x60, y61, rfl, by omega, h55, by omega⟩))) hP hD
  refine lv_aload_n hx hb dX3_read_22 rfl (lv_at hl 0 rfl) ?_
  refine lv_iconst (v := 0) hx hb dX3_read_23 (by decide) ?_
  refine va_put (D := D) (cl := vwCl) (ci := 3) (v := .int 0) (ty := tyX3 8) (C := RX3) (T := TX3) (N := 13) hx hb hts in_X3_read_X3 tyX3 tyX3_ok nmX3 hown hK hP hD hS 1 (wl_at (by decide) e67) rfl 8 (by decide) (hts (.fieldLink RX3 61 "EightReasons$Reader" "next" "I") (List.mem_of_getElem? (i := 5) rfl)) (fun _ h9 => h9) rfl (tyX3_ok 8 (by decide)) rfl rfl (Nat.le_of_ble_eq_true rfl) dX3_read_24 (fun H locs hP hD hS => ?_)
  have ttl_0 := tl_0
  obtain ⟨f, hT, hP, hD, e69, hj70⟩ := stU (by decide) (TYx.p1 hT (show OKx ad cy tx rby 0 1 _ from (show okX3 ad rby 0 1 _ from ⟨(0 : Int32), ((-1) : Int32), t54, (0 : Int32), x58, x59, x60, y61, rfl, by omega, h55, by omega⟩))) hP hD
  refine lv_aload_n hx hb dX3_read_27 rfl (lv_at hl 0 rfl) ?_
  refine tVV (As := []) (rest := []) (i := 1) ⟨hx, hb, hml, hown, hts⟩ hK hE hP hD hS hA hAB (s_X3_advance_0 l B0 adK adV D cy ad fr0 tx rby (0 : Int32) f hT _) (cwV 0 hts gX3_read_X3_advance rfl rfl rfl (by decide +kernel) ⟨Nat.le_of_ble_eq_true rfl, Nat.le_of_ble_eq_true rfl⟩) (by decide) 3 e69 rfl rfl hl.1 rfl (Nat.le_of_ble_eq_true rfl) dX3_read_28 ⟨Nat.le_of_ble_eq_true rfl, Nat.le_of_ble_eq_true rfl⟩ (fun f H locs hw hP hD hS => ?_)
  obtain ⟨hrs, x71, hT⟩ := hw
  refine lv_iconst (v := 0) hx hb dX3_read_31 (by decide) ?_
  refine lv_istore_n (lv' := [(1, .int 0), (0, .ref (ad 1))]) hx hb dX3_read_32 rfl hl (by decide) rfl (fun ls hl => ?_)
  exact j33 (Int.toNat (1602 - (0 : Int32).toInt)) f H locs ls (0 : Int32) x71 (by omega) (by omega) hT hP hD hS (lv_sub hl [0, 1] rfl)
set_option maxHeartbeats 4000000 in
set_option maxRecDepth 100000 in
theorem s_X5_allStrands_0 (l : Launch) (B0 : Nat) (adK adV : Nat → Nat) (D : va_G) (cy : Nat → ClassId) (ad : Nat → Nat) (fr0 : Nat → va_E) (tx : Int32) (rby : Int32) (rnx : Int32) (f : Nat → va_E) (hT : TYx ad cy fr0 tx rby rnx f) (q0 : Nat) (hq0 : isSuit q0) (sz : Nat) : TtI l yX5_allStrands wsX5_allStrands 0 0 [.ref (ad q0)] B0 adK adV D cy ad f sz (fun (r : Int32) (g : Nat → va_E) => (0 ≤ r.toInt ∧ r.toInt ≤ 4095) ∧ (f = g)) := by
  refine TtI.of (cc := cX5_allStrands) (maxL := 1) (ty := .int) (own := RX5) (by decide) rfl (Nat.le_of_ble_eq_true rfl) rfl ?_
  intro p e s m below meth c A ls hx hb hr hml hts hown hlk hK hE hP hD hS hA hAB hl
  have hl : lv_has ls 1 [(0, .ref (ad q0))] := hl
  refine st0 (fun H locs hP hS => ?_) hP hS
  refine lv_iconst (v := 1) hx hb dX5_allStrands_0 (by decide) ?_
  refine lv_aload_n hx hb dX5_allStrands_1 rfl (lv_at hl 0 rfl) ?_
  obtain ⟨x1, x3, x4, x6, x7, e8, h2, h5⟩ := (ty_suit hT hq0)
  refine va_get (D := D) (cl := vwCl) (ci := 5) (v := .int x4) (C := RX5) (T := TX5) (N := 12) hx hb hts in_X5_allStrands_X5 hown hK hP q0 (wl_at (x_lt (x_suit0 hq0)) e8) rfl 2 (by decide) (hts (.fieldLink RX5 44 "EightReasons$Suit" "strands" "I") (List.mem_of_getElem? (i := 1) rfl)) (fun _ h9 => h9) rfl dX5_allStrands_2 ?_
  refine lv_ishl hx hb dX5_allStrands_5 ?_
  refine lv_topi (fun x9 ex9 => ?_)
  have hx9 := r_shl (K := 12) (M := 4096) ex9 (by decide) (by decide) (by omega) (by omega)
  refine lv_iconst (v := 1) hx hb dX5_allStrands_6 (by decide) ?_
  have ttl_1 := tl_1
  refine lv_isub hx hb dX5_allStrands_7 ?_
  refine lv_topi (fun x10 ex10 => ?_)
  have hx10 := r_sub ex10 (by omega) (by omega)
  exact tI hx hb hr hlk rfl hP hS ⟨(by omega), rfl⟩ dX5_allStrands_8
set_option maxHeartbeats 4000000 in
set_option maxRecDepth 100000 in
theorem s_X4_startAs_0 (l : Launch) (B0 : Nat) (adK adV : Nat → Nat) (D : va_G) (cy : Nat → ClassId) (ad : Nat → Nat) (fr0 : Nat → va_E) (tx : Int32) (rby : Int32) (rnx : Int32) (f : Nat → va_E) (hT : TYx ad cy fr0 tx rby rnx f) (q0 : Nat) (hq0 : isState q0) (q1 : Nat) (hq1 : isSuit q1) (sz : Nat) : TtV l yX4_startAs wsX4_startAs 1 60 [.ref (ad q0), .ref (ad q1)] B0 adK adV D cy ad f sz (fun (g : Nat → va_E) => True ∧ (TYx ad cy fr0 tx rby rnx g)) := by
  refine TtV.of (cc := cX4_startAs) (maxL := 2) (own := RX4) (by decide) rfl (Nat.le_of_ble_eq_true rfl) rfl ?_
  intro p e s m below meth c A ls hx hb hr hml hts hown hlk hK hE hP hD hS hA hAB hl
  have hl : lv_has ls 2 [(0, .ref (ad q0)), (1, .ref (ad q1))] := hl
  refine st0 (fun H locs hP hS => ?_) hP hS
  refine lv_aload_n hx hb dX4_startAs_0 rfl (lv_at hl 1 rfl) ?_
  obtain ⟨x1, x3, x4, x6, x7, e8, h2, h5⟩ := (ty_suit hT hq1)
  refine va_get (D := D) (cl := vwCl) (ci := 5) (v := .ref (ad (q1 + 6))) (C := RX5) (T := TX5) (N := 12) hx hb hts in_X4_startAs_X5 hown hK hP q1 (wl_at (x_lt (x_suit0 hq1)) e8) rfl 10 (by decide) (hts (.fieldLink RX4 15 "EightReasons$Suit" "strong" "[I") (List.mem_of_getElem? (i := 1) rfl)) (fun _ h9 => h9) rfl dX4_startAs_1 ?_
  refine lv_iconst (v := 0) hx hb dX4_startAs_4 (by decide) ?_
  refine lv_aload_n hx hb dX4_startAs_5 rfl (lv_at hl 0 rfl) ?_
  obtain ⟨x9, x11, x12, x13, e14, h10⟩ := (ty_state hT hq0)
  refine va_get (D := D) (cl := vwCl) (ci := 4) (v := .ref (ad (q0 + 1))) (C := RX4) (T := TX4) (N := 5) hx hb hts in_X4_startAs_X4 hown hK hP q0 (wl_at (x_lt (x_state0 hq0)) e14) rfl 0 (by decide) (hts (.fieldLink RX4 9 "EightReasons$State" "strong" "[I") (List.mem_of_getElem? (i := 2) rfl)) (fun _ h9 => h9) rfl dX4_startAs_6 ?_
  refine lv_iconst (v := 0) hx hb dX4_startAs_9 (by decide) ?_
  refine lv_bipush (v := 12) hx hb dX4_startAs_10 (by decide) ?_
  obtain ⟨g16, e15⟩ := (ty_suit6 hT hq1)
  obtain ⟨g18, e17⟩ := (ty_strow hT hq0)
  refine va_copyi hx hb (hml.trans hl.1.symm) hown (hts (.methodLink RX4 18 arraycopyName) (List.mem_of_getElem? (i := 3) rfl)) (hts (.native arraycopyName) (List.mem_of_getElem? (i := 4) rfl)) (hts (.static arraycopyName) (List.mem_of_getElem? (i := 5) rfl)) (hts (.initialized "java/lang/System") (List.mem_of_getElem? (i := 6) rfl)) hK hP hD hS (q1 + 6) (q0 + 1) 0 0 (ty := .int) (wl_at (x_lt (x_suit hq1 (by decide))) e15) (wl_at (x_lt (x_state hq0 (by decide))) e17) rfl rfl rfl (by decide) (by decide) (by decide) (by decide) (by decide) (fun _ _ => rfl) (Nat.le_of_ble_eq_true rfl) (Nat.le_of_ble_eq_true rfl) dX4_startAs_12 (fun H locs hP hD hS => ?_)
  obtain ⟨f, hT, hP, hD, e19, hj20⟩ := stU (x_lt (x_state hq0 (by decide))) (TYx.up hT (x_state hq0 (by decide)) (ok_strow hq0 ⟨_, rfl⟩)) hP hD
  have e21 := (hj20 q0 (by omega)).trans e14
  refine lv_aload_n hx hb dX4_startAs_15 rfl (lv_at hl 0 rfl) ?_
  refine lv_aload_n hx hb dX4_startAs_16 rfl (lv_at hl 1 rfl) ?_
  obtain ⟨x22, x24, x25, x27, x28, e29, h23, h26⟩ := (ty_suit hT hq1)
  refine tVI (As := []) (rest := [.ref (ad q0)]) (i := q1) ⟨hx, hb, hml, hown, hts⟩ hK hE hP hD hS hA hAB (s_X5_allStrands_0 l B0 adK adV D cy ad fr0 tx rby rnx f hT q1 hq1 _) (cwV 0 hts gX4_startAs_X5_allStrands rfl rfl rfl (by decide +kernel) ⟨Nat.le_of_ble_eq_true rfl, Nat.le_of_ble_eq_true rfl⟩) (x_lt (x_suit0 hq1)) 5 e29 rfl rfl hl.1 rfl (Nat.le_of_ble_eq_true rfl) dX4_startAs_17 ⟨Nat.le_of_ble_eq_true rfl, Nat.le_of_ble_eq_true rfl⟩ (fun r g H locs hw hP hD hS => ?_)
  obtain ⟨hrs, rfl⟩ := hw
  obtain ⟨x30, rfl⟩ : ∃ q, q = r := ⟨_, rfl⟩
  have h31 := hrs
  refine va_put (D := D) (cl := vwCl) (ci := 4) (v := .int x30) (ty := tyX4 1) (C := RX4) (T := TX4) (N := 5) hx hb hts in_X4_startAs_X4 tyX4 tyX4_ok nmX4 hown hK hP hD hS q0 (wl_at (x_lt (x_state0 hq0)) e21) rfl 1 (by decide) (hts (.fieldLink RX4 28 "EightReasons$State" "tied" "I") (List.mem_of_getElem? (i := 7) rfl)) (fun _ h9 => h9) rfl (tyX4_ok 1 (by decide)) rfl rfl (Nat.le_of_ble_eq_true rfl) dX4_startAs_20 (fun H locs hP hD hS => ?_)
  obtain ⟨f, hT, hP, hD, e32, hj33⟩ := stU (x_lt (x_state0 hq0)) (TYx.up hT (x_state0 hq0) (ok_state hq0 ⟨x30, x11, x12, x13, rfl, by omega⟩)) hP hD
  refine lv_aload_n hx hb dX4_startAs_23 rfl (lv_at hl 0 rfl) ?_
  refine lv_iconst (v := 0) hx hb dX4_startAs_24 (by decide) ?_
  refine va_put (D := D) (cl := vwCl) (ci := 4) (v := .int 0) (ty := tyX4 2) (C := RX4) (T := TX4) (N := 5) hx hb hts in_X4_startAs_X4 tyX4 tyX4_ok nmX4 hown hK hP hD hS q0 (wl_at (x_lt (x_state0 hq0)) e32) rfl 2 (by decide) (hts (.fieldLink RX4 32 "EightReasons$State" "struck" "I") (List.mem_of_getElem? (i := 8) rfl)) (fun _ h9 => h9) rfl (tyX4_ok 2 (by decide)) rfl rfl (Nat.le_of_ble_eq_true rfl) dX4_startAs_25 (fun H locs hP hD hS => ?_)
  obtain ⟨f, hT, hP, hD, e34, hj35⟩ := stU (x_lt (x_state0 hq0)) (TYx.up hT (x_state0 hq0) (ok_state hq0 ⟨x30, (0 : Int32), x12, x13, rfl, by omega⟩)) hP hD
  refine lv_aload_n hx hb dX4_startAs_28 rfl (lv_at hl 0 rfl) ?_
  refine lv_iconst (v := 0) hx hb dX4_startAs_29 (by decide) ?_
  refine va_put (D := D) (cl := vwCl) (ci := 4) (v := .int 0) (ty := tyX4 3) (C := RX4) (T := TX4) (N := 5) hx hb hts in_X4_startAs_X4 tyX4 tyX4_ok nmX4 hown hK hP hD hS q0 (wl_at (x_lt (x_state0 hq0)) e34) rfl 3 (by decide) (hts (.fieldLink RX4 35 "EightReasons$State" "day" "I") (List.mem_of_getElem? (i := 9) rfl)) (fun _ h9 => h9) rfl (tyX4_ok 3 (by decide)) rfl rfl (Nat.le_of_ble_eq_true rfl) dX4_startAs_30 (fun H locs hP hD hS => ?_)
  obtain ⟨f, hT, hP, hD, e36, hj37⟩ := stU (x_lt (x_state0 hq0)) (TYx.up hT (x_state0 hq0) (ok_state hq0 ⟨x30, (0 : Int32), (0 : Int32), x13, rfl, by omega⟩)) hP hD
  refine lv_aload_n hx hb dX4_startAs_33 rfl (lv_at hl 0 rfl) ?_
  refine lv_aload_n hx hb dX4_startAs_34 rfl (lv_at hl 1 rfl) ?_
  obtain ⟨x38, x40, x41, x43, x44, e45, h39, h42⟩ := (ty_suit hT hq1)
  refine va_get (D := D) (cl := vwCl) (ci := 5) (v := .int x44) (C := RX5) (T := TX5) (N := 12) hx hb hts in_X4_startAs_X5 hown hK hP q1 (wl_at (x_lt (x_suit0 hq1)) e45) rfl 4 (by decide) (hts (.fieldLink RX4 38 "EightReasons$Suit" "draw" "I") (List.mem_of_getElem? (i := 10) rfl)) (fun _ h9 => h9) rfl dX4_startAs_35 ?_
  refine va_put (D := D) (cl := vwCl) (ci := 4) (v := .int x44) (ty := tyX4 4) (C := RX4) (T := TX4) (N := 5) hx hb hts in_X4_startAs_X4 tyX4 tyX4_ok nmX4 hown hK hP hD hS q0 (wl_at (x_lt (x_state0 hq0)) e36) rfl 4 (by decide) (hts (.fieldLink RX4 41 "EightReasons$State" "seed" "I") (List.mem_of_getElem? (i := 11) rfl)) (fun _ h9 => h9) rfl (tyX4_ok 4 (by decide)) rfl rfl (Nat.le_of_ble_eq_true rfl) dX4_startAs_38 (fun H locs hP hD hS => ?_)
  obtain ⟨f, hT, hP, hD, e46, hj47⟩ := stU (x_lt (x_state0 hq0)) (TYx.up hT (x_state0 hq0) (ok_state hq0 ⟨x30, (0 : Int32), (0 : Int32), x44, rfl, by omega⟩)) hP hD
  exact tV hx hb hr hlk hP hS ⟨trivial, hT⟩ dX4_startAs_41
