set_option maxRecDepth 20000 in
theorem ggX9_readLine_X9_isFull : GoodIn wsX9_readLine wsX9_isFull := goodIn_r _ [20, 3, 4, 7, 6, 10, 21, 11, 22, 12, 14, 23, 24, 25, 19, 26, 2, 1, 27, 28, 29, 162, 163, 164, 165, 166, 167, 168, 169, 170, 171, 172, 173, 174, 175, 176, 177, 178, 179, 180, 181, 182, 183, 184, 185, 186, 187, 188, 189, 190, 191, 192, 193, 194, 195, 196, 197, 198, 199, 200, 201, 202, 203, 204, 205, 206, 207, 208, 209, 210, 211, 212, 213, 214, 215, 216, 217, 218, 219, 220, 221, 222, 223, 224, 225] rfl rfl
set_option maxRecDepth 20000 in
theorem gX9_readLine_X9_isFull : GoodIn wsX9_readLine (wsV RX9 249 RX9 yX9_isFull wsX9_isFull) := goodIn_app (goodIn_of _ (by decide +kernel)) ggX9_readLine_X9_isFull
set_option maxRecDepth 20000 in
theorem ggX9_readLine_X9_misplaced : GoodIn wsX9_readLine wsX9_misplaced := goodIn_r _ [33, 2, 34, 35, 36, 37, 19, 38, 39, 40, 162, 163, 164, 165, 166, 167, 168, 169, 170, 171, 172, 173, 174, 175, 176, 177, 178, 179, 180, 181, 182, 183, 184, 185, 186, 187, 188, 189, 190, 191, 192, 193, 194, 195, 196, 197, 198, 199, 200, 201, 202, 203, 204, 205, 206, 207, 208, 209, 210, 211, 212, 213, 214, 215, 216, 217, 218, 219, 220, 221, 222, 223, 224, 225] rfl rfl
set_option maxRecDepth 20000 in
theorem gX9_readLine_X9_misplaced : GoodIn wsX9_readLine (wsV RX9 216 RX9 yX9_misplaced wsX9_misplaced) := goodIn_app (goodIn_of _ (by decide +kernel)) ggX9_readLine_X9_misplaced
set_option maxRecDepth 20000 in
theorem ggX9_readLine_X9_isGood : GoodIn wsX9_readLine wsX9_isGood := goodIn_r _ [44, 39, 162, 163, 164, 165, 166, 167, 168, 169, 170, 171, 172, 173, 174, 175, 176, 177, 178, 179, 180, 181, 182, 183, 184, 185, 186, 187, 188, 189, 190, 191, 192, 193, 194, 195, 196, 197, 198, 199, 200, 201, 202, 203, 204, 205, 206, 207, 208, 209, 210, 211, 212, 213, 214, 215, 216, 217, 218, 219, 220, 221, 222, 223, 224, 225] rfl rfl
set_option maxRecDepth 20000 in
theorem gX9_readLine_X9_isGood : GoodIn wsX9_readLine (wsV RX9 209 RX9 yX9_isGood wsX9_isGood) := goodIn_app (goodIn_of _ (by decide +kernel)) ggX9_readLine_X9_isGood
set_option maxRecDepth 20000 in
theorem ggX9_readLine_X9_goOn : GoodIn wsX9_readLine wsX9_goOn := goodIn_r _ [48, 49, 34, 50, 2, 1, 51, 52, 53, 54, 19, 55, 56, 57, 58, 59, 60, 61, 62, 3, 4, 9, 10, 63, 11, 12, 14, 64, 65, 66, 67, 68, 69, 70, 71, 72, 73, 74, 75, 162, 163, 164, 165, 166, 167, 168, 169, 170, 171, 172, 173, 174, 175, 176, 177, 178, 179, 180, 181, 182, 183, 184, 185, 186, 187, 188, 189, 190, 191, 192, 193, 194, 195, 196, 197, 198, 199, 200, 201, 202, 203, 204, 205, 206, 207, 208, 209, 210, 211, 212, 213, 214, 215, 216, 217, 218, 219, 220, 221, 222, 223, 224, 225] rfl rfl
set_option maxRecDepth 20000 in
theorem gX9_readLine_X9_goOn : GoodIn wsX9_readLine (wsV RX9 213 RX9 yX9_goOn wsX9_goOn) := goodIn_app (goodIn_of _ (by decide +kernel)) ggX9_readLine_X9_goOn
set_option maxRecDepth 20000 in
theorem ggX9_readLine_X9_fresh : GoodIn wsX9_readLine wsX9_fresh := goodIn_r _ [79, 2, 34, 1, 41, 42, 43, 19, 44, 39, 30, 31, 32, 33, 35, 36, 37, 38, 40, 80, 81, 82, 83, 7, 6, 5, 45, 46, 47, 48, 49, 50, 51, 52, 53, 54, 55, 56, 57, 58, 59, 60, 61, 62, 3, 4, 9, 10, 63, 11, 12, 14, 64, 65, 66, 67, 68, 69, 70, 71, 72, 73, 74, 75, 162, 163, 164, 165, 166, 167, 168, 169, 170, 171, 172, 173, 174, 175, 176, 177, 178, 179, 180, 181, 182, 183, 184, 185, 186, 187, 188, 189, 190, 191, 192, 193, 194, 195, 196, 197, 198, 199, 200, 201, 202, 203, 204, 205, 206, 207, 208, 209, 210, 211, 212, 213, 214, 215, 216, 217, 218, 219, 220, 221, 222, 223, 224, 225] rfl rfl
set_option maxRecDepth 20000 in
theorem gX9_readLine_X9_fresh : GoodIn wsX9_readLine (wsV RX9 252 RX9 yX9_fresh wsX9_fresh) := goodIn_app (goodIn_of _ (by decide +kernel)) ggX9_readLine_X9_fresh
set_option maxRecDepth 20000 in
theorem ggX9_readLine_X9_after : GoodIn wsX9_readLine wsX9_after := goodIn_r _ [87, 23, 24, 25, 19, 26, 2, 1, 88, 89, 90, 91, 41, 42, 43, 44, 39, 45, 46, 47, 48, 49, 34, 50, 51, 52, 53, 54, 55, 56, 57, 58, 59, 60, 61, 62, 3, 4, 9, 10, 63, 11, 12, 14, 64, 65, 66, 67, 68, 69, 70, 71, 72, 73, 74, 75, 30, 31, 32, 33, 35, 36, 37, 38, 40, 92, 93, 94, 95, 162, 163, 164, 165, 166, 167, 168, 169, 170, 171, 172, 173, 174, 175, 176, 177, 178, 179, 180, 181, 182, 183, 184, 185, 186, 187, 188, 189, 190, 191, 192, 193, 194, 195, 196, 197, 198, 199, 200, 201, 202, 203, 204, 205, 206, 207, 208, 209, 210, 211, 212, 213, 214, 215, 216, 217, 218, 219, 220, 221, 222, 223, 224, 225] rfl rfl
set_option maxRecDepth 20000 in
theorem gX9_readLine_X9_after : GoodIn wsX9_readLine (wsV RX9 256 RX9 yX9_after wsX9_after) := goodIn_app (goodIn_of _ (by decide +kernel)) ggX9_readLine_X9_after
set_option maxRecDepth 20000 in
theorem ggX9_readLine_X9_readStrand : GoodIn wsX9_readLine wsX9_readStrand := goodIn_r _ [99, 6, 21, 100, 8, 101, 34, 102, 63, 80, 81, 82, 19, 83, 7, 2, 5, 1, 103, 104, 105, 106, 41, 42, 43, 44, 39, 30, 31, 32, 33, 35, 36, 37, 38, 40, 45, 46, 47, 48, 49, 50, 51, 52, 53, 54, 55, 56, 57, 58, 59, 60, 61, 62, 3, 4, 9, 10, 11, 12, 14, 64, 65, 66, 67, 68, 69, 70, 71, 72, 73, 74, 75, 84, 85, 86, 87, 23, 24, 25, 26, 88, 89, 90, 91, 92, 93, 94, 95, 162, 163, 164, 165, 166, 167, 168, 169, 170, 171, 172, 173, 174, 175, 176, 177, 178, 179, 180, 181, 182, 183, 184, 185, 186, 187, 188, 189, 190, 191, 192, 193, 194, 195, 196, 197, 198, 199, 200, 201, 202, 203, 204, 205, 206, 207, 208, 209, 210, 211, 212, 213, 214, 215, 216, 217, 218, 219, 220, 221, 222, 223, 224, 225] rfl rfl
set_option maxRecDepth 20000 in
theorem gX9_readLine_X9_readStrand : GoodIn wsX9_readLine (wsV RX9 260 RX9 yX9_readStrand wsX9_readStrand) := goodIn_app (goodIn_of _ (by decide +kernel)) ggX9_readLine_X9_readStrand
set_option maxRecDepth 20000 in
theorem ggX9_readLine_X9_readRule : GoodIn wsX9_readLine wsX9_readRule := goodIn_r _ [110, 22, 6, 111, 112, 113, 114, 115, 116, 117, 19, 118, 119, 120, 121, 122, 123, 124, 125, 126, 41, 42, 43, 44, 39, 127, 128, 129, 130, 69, 131, 2, 51, 23, 24, 25, 26, 1, 132, 133, 134, 135, 34, 52, 53, 54, 55, 50, 56, 136, 137, 138, 139, 63, 64, 65, 9, 66, 30, 31, 32, 33, 35, 36, 37, 38, 40, 45, 46, 47, 48, 49, 57, 58, 59, 60, 61, 62, 3, 4, 10, 11, 12, 14, 67, 68, 70, 71, 72, 73, 74, 75, 140, 141, 142, 143, 144, 145, 146, 147, 148, 149, 150, 151, 152, 153, 154, 155, 156, 157, 88, 89, 90, 91, 162, 163, 164, 165, 166, 167, 168, 169, 170, 171, 172, 173, 174, 175, 176, 177, 178, 179, 180, 181, 182, 183, 184, 185, 186, 187, 188, 189, 190, 191, 192, 193, 194, 195, 196, 197, 198, 199, 200, 201, 202, 203, 204, 205, 206, 207, 208, 209, 210, 211, 212, 213, 214, 215, 216, 217, 218, 219, 220, 221, 222, 223, 224, 225] rfl rfl
set_option maxRecDepth 20000 in
theorem gX9_readLine_X9_readRule : GoodIn wsX9_readLine (wsV RX9 263 RX9 yX9_readRule wsX9_readRule) := goodIn_app (goodIn_of _ (by decide +kernel)) ggX9_readLine_X9_readRule
set_option maxRecDepth 20000 in
theorem ggX9_readLine_X9_once : GoodIn wsX9_readLine wsX9_once := goodIn_r _ [161, 22, 6, 92, 93, 94, 19, 95, 2, 51, 34, 41, 42, 43, 44, 39, 30, 31, 32, 33, 35, 36, 37, 38, 40, 45, 46, 47, 48, 49, 50, 1, 52, 53, 54, 55, 56, 57, 58, 59, 60, 61, 62, 3, 4, 9, 10, 63, 11, 12, 14, 64, 65, 66, 67, 68, 69, 70, 71, 72, 73, 74, 75, 162, 163, 164, 165, 166, 167, 168, 169, 170, 171, 172, 173, 174, 175, 176, 177, 178, 179, 180, 181, 182, 183, 184, 185, 186, 187, 188, 189, 190, 191, 192, 193, 194, 195, 196, 197, 198, 199, 200, 201, 202, 203, 204, 205, 206, 207, 208, 209, 210, 211, 212, 213, 214, 215, 216, 217, 218, 219, 220, 221, 222, 223, 224, 225] rfl rfl
set_option maxRecDepth 20000 in
theorem gX9_readLine_X9_once : GoodIn wsX9_readLine (wsV RX9 266 RX9 yX9_once wsX9_once) := goodIn_app (goodIn_of _ (by decide +kernel)) ggX9_readLine_X9_once
set_option maxRecDepth 20000 in
theorem ggX9_readLine_X9_isSignHere : GoodIn wsX9_readLine wsX9_isSignHere := goodIn_r _ [135, 2, 34, 52, 53, 54, 19, 55, 50, 56, 162, 163, 164, 165, 166, 167, 168, 169, 170, 171, 172, 173, 174, 175, 176, 177, 178, 179, 180, 181, 182, 183, 184, 185, 186, 187, 188, 189, 190, 191, 192, 193, 194, 195, 196, 197, 198, 199, 200, 201, 202, 203, 204, 205, 206, 207, 208, 209, 210, 211, 212, 213, 214, 215, 216, 217, 218, 219, 220, 221, 222, 223, 224, 225] rfl rfl
set_option maxRecDepth 20000 in
theorem gX9_readLine_X9_isSignHere : GoodIn wsX9_readLine (wsV RX9 269 RX9 yX9_isSignHere wsX9_isSignHere) := goodIn_app (goodIn_of _ (by decide +kernel)) ggX9_readLine_X9_isSignHere
set_option maxRecDepth 20000 in
theorem ggX9_readLine_X9_must : GoodIn wsX9_readLine wsX9_must := goodIn_r _ [91, 41, 42, 43, 19, 44, 39, 45, 46, 47, 48, 49, 34, 50, 2, 1, 51, 52, 53, 54, 55, 56, 57, 58, 59, 60, 61, 62, 3, 4, 9, 10, 63, 11, 12, 14, 64, 65, 66, 67, 68, 69, 70, 71, 72, 73, 74, 75, 30, 31, 32, 33, 35, 36, 37, 38, 40, 162, 163, 164, 165, 166, 167, 168, 169, 170, 171, 172, 173, 174, 175, 176, 177, 178, 179, 180, 181, 182, 183, 184, 185, 186, 187, 188, 189, 190, 191, 192, 193, 194, 195, 196, 197, 198, 199, 200, 201, 202, 203, 204, 205, 206, 207, 208, 209, 210, 211, 212, 213, 214, 215, 216, 217, 218, 219, 220, 221, 222, 223, 224, 225] rfl rfl
set_option maxRecDepth 20000 in
theorem gX9_readLine_X9_must : GoodIn wsX9_readLine (wsV RX9 222 RX9 yX9_must wsX9_must) := goodIn_app (goodIn_of _ (by decide +kernel)) ggX9_readLine_X9_must
theorem dX9_readLine_0 : decode cX9_readLine 0 = .ok (.aload_n 0, 1) := by decide +kernel
theorem dX9_readLine_1 : decode cX9_readLine 1 = .ok (.getfield 188, 3) := by decide +kernel
theorem dX9_readLine_4 : decode cX9_readLine 4 = .ok (.lstore_n 1, 1) := by decide +kernel
theorem dX9_readLine_5 : decode cX9_readLine 5 = .ok (.aload_n 0, 1) := by decide +kernel
theorem dX9_readLine_6 : decode cX9_readLine 6 = .ok (.getfield 181, 3) := by decide +kernel
theorem dX9_readLine_9 : decode cX9_readLine 9 = .ok (.iconst 3, 1) := by decide +kernel
theorem dX9_readLine_10 : decode cX9_readLine 10 = .ok (.if_icmp .ne 10, 3) := by decide +kernel
theorem dX9_readLine_13 : decode cX9_readLine 13 = .ok (.aload_n 0, 1) := by decide +kernel
theorem dX9_readLine_14 : decode cX9_readLine 14 = .ok (.invokevirtual 249, 3) := by decide +kernel
theorem dX9_readLine_17 : decode cX9_readLine 17 = .ok (.ifCond .eq 7, 3) := by decide +kernel
theorem dX9_readLine_20 : decode cX9_readLine 20 = .ok (.aload_n 0, 1) := by decide +kernel
theorem dX9_readLine_21 : decode cX9_readLine 21 = .ok (.invokevirtual 216, 3) := by decide +kernel
theorem dX9_readLine_24 : decode cX9_readLine 24 = .ok (.aload_n 0, 1) := by decide +kernel
theorem dX9_readLine_25 : decode cX9_readLine 25 = .ok (.invokevirtual 209, 3) := by decide +kernel
theorem dX9_readLine_28 : decode cX9_readLine 28 = .ok (.ifCond .ne 4, 3) := by decide +kernel
theorem dX9_readLine_31 : decode cX9_readLine 31 = .ok (.return_, 1) := by decide +kernel
theorem dX9_readLine_32 : decode cX9_readLine 32 = .ok (.aload_n 0, 1) := by decide +kernel
theorem dX9_readLine_33 : decode cX9_readLine 33 = .ok (.invokevirtual 213, 3) := by decide +kernel
theorem dX9_readLine_36 : decode cX9_readLine 36 = .ok (.lload_n 1, 1) := by decide +kernel
theorem dX9_readLine_37 : decode cX9_readLine 37 = .ok (.ldc2_w 143, 3) := by decide +kernel
theorem dX9_readLine_40 : decode cX9_readLine 40 = .ok (.lcmp, 1) := by decide +kernel
theorem dX9_readLine_41 : decode cX9_readLine 41 = .ok (.ifCond .eq 11, 3) := by decide +kernel
theorem dX9_readLine_44 : decode cX9_readLine 44 = .ok (.lload_n 1, 1) := by decide +kernel
theorem dX9_readLine_45 : decode cX9_readLine 45 = .ok (.ldc2_w 145, 3) := by decide +kernel
theorem dX9_readLine_48 : decode cX9_readLine 48 = .ok (.lcmp, 1) := by decide +kernel
theorem dX9_readLine_49 : decode cX9_readLine 49 = .ok (.ifCond .ne 86, 3) := by decide +kernel
theorem dX9_readLine_52 : decode cX9_readLine 52 = .ok (.aload_n 0, 1) := by decide +kernel
theorem dX9_readLine_53 : decode cX9_readLine 53 = .ok (.getfield 57, 3) := by decide +kernel
theorem dX9_readLine_56 : decode cX9_readLine 56 = .ok (.bipush 10, 2) := by decide +kernel
theorem dX9_readLine_58 : decode cX9_readLine 58 = .ok (.aload_n 0, 1) := by decide +kernel
theorem dX9_readLine_59 : decode cX9_readLine 59 = .ok (.getfield 230, 3) := by decide +kernel
theorem dX9_readLine_62 : decode cX9_readLine 62 = .ok (.imul, 1) := by decide +kernel
theorem dX9_readLine_63 : decode cX9_readLine 63 = .ok (.aload_n 0, 1) := by decide +kernel
theorem dX9_readLine_64 : decode cX9_readLine 64 = .ok (.getfield 20, 3) := by decide +kernel
theorem dX9_readLine_67 : decode cX9_readLine 67 = .ok (.aload_n 0, 1) := by decide +kernel
theorem dX9_readLine_68 : decode cX9_readLine 68 = .ok (.getfield 230, 3) := by decide +kernel
theorem dX9_readLine_71 : decode cX9_readLine 71 = .ok (.iaload, 1) := by decide +kernel
theorem dX9_readLine_72 : decode cX9_readLine 72 = .ok (.iadd, 1) := by decide +kernel
theorem dX9_readLine_73 : decode cX9_readLine 73 = .ok (.aload_n 0, 1) := by decide +kernel
theorem dX9_readLine_74 : decode cX9_readLine 74 = .ok (.invokevirtual 252, 3) := by decide +kernel
theorem dX9_readLine_77 : decode cX9_readLine 77 = .ok (.lastore, 1) := by decide +kernel
theorem dX9_readLine_78 : decode cX9_readLine 78 = .ok (.aload_n 0, 1) := by decide +kernel
theorem dX9_readLine_79 : decode cX9_readLine 79 = .ok (.getfield 39, 3) := by decide +kernel
theorem dX9_readLine_82 : decode cX9_readLine 82 = .ok (.bipush 10, 2) := by decide +kernel
theorem dX9_readLine_84 : decode cX9_readLine 84 = .ok (.aload_n 0, 1) := by decide +kernel
theorem dX9_readLine_85 : decode cX9_readLine 85 = .ok (.getfield 230, 3) := by decide +kernel
theorem dX9_readLine_88 : decode cX9_readLine 88 = .ok (.imul, 1) := by decide +kernel
theorem dX9_readLine_89 : decode cX9_readLine 89 = .ok (.aload_n 0, 1) := by decide +kernel
theorem dX9_readLine_90 : decode cX9_readLine 90 = .ok (.getfield 20, 3) := by decide +kernel
theorem dX9_readLine_93 : decode cX9_readLine 93 = .ok (.aload_n 0, 1) := by decide +kernel
theorem dX9_readLine_94 : decode cX9_readLine 94 = .ok (.getfield 230, 3) := by decide +kernel
theorem dX9_readLine_97 : decode cX9_readLine 97 = .ok (.iaload, 1) := by decide +kernel
theorem dX9_readLine_98 : decode cX9_readLine 98 = .ok (.iadd, 1) := by decide +kernel
theorem dX9_readLine_99 : decode cX9_readLine 99 = .ok (.lload_n 1, 1) := by decide +kernel
theorem dX9_readLine_100 : decode cX9_readLine 100 = .ok (.ldc2_w 145, 3) := by decide +kernel
theorem dX9_readLine_103 : decode cX9_readLine 103 = .ok (.lcmp, 1) := by decide +kernel
theorem dX9_readLine_104 : decode cX9_readLine 104 = .ok (.ifCond .ne 16, 3) := by decide +kernel
theorem dX9_readLine_107 : decode cX9_readLine 107 = .ok (.aload_n 0, 1) := by decide +kernel
theorem dX9_readLine_108 : decode cX9_readLine 108 = .ok (.ldc2_w 147, 3) := by decide +kernel
theorem dX9_readLine_111 : decode cX9_readLine 111 = .ok (.iconst 1, 1) := by decide +kernel
theorem dX9_readLine_112 : decode cX9_readLine 112 = .ok (.bipush 99, 2) := by decide +kernel
theorem dX9_readLine_114 : decode cX9_readLine 114 = .ok (.invokevirtual 256, 3) := by decide +kernel
theorem dX9_readLine_117 : decode cX9_readLine 117 = .ok (.goto 4, 3) := by decide +kernel
theorem dX9_readLine_120 : decode cX9_readLine 120 = .ok (.iconst 0, 1) := by decide +kernel
theorem dX9_readLine_121 : decode cX9_readLine 121 = .ok (.iastore, 1) := by decide +kernel
theorem dX9_readLine_122 : decode cX9_readLine 122 = .ok (.aload_n 0, 1) := by decide +kernel
theorem dX9_readLine_123 : decode cX9_readLine 123 = .ok (.getfield 20, 3) := by decide +kernel
theorem dX9_readLine_126 : decode cX9_readLine 126 = .ok (.aload_n 0, 1) := by decide +kernel
theorem dX9_readLine_127 : decode cX9_readLine 127 = .ok (.getfield 230, 3) := by decide +kernel
theorem dX9_readLine_130 : decode cX9_readLine 130 = .ok (.dup2, 1) := by decide +kernel
theorem dX9_readLine_131 : decode cX9_readLine 131 = .ok (.iaload, 1) := by decide +kernel
theorem dX9_readLine_132 : decode cX9_readLine 132 = .ok (.iconst 1, 1) := by decide +kernel
theorem dX9_readLine_133 : decode cX9_readLine 133 = .ok (.iadd, 1) := by decide +kernel
theorem dX9_readLine_134 : decode cX9_readLine 134 = .ok (.iastore, 1) := by decide +kernel
theorem dX9_readLine_135 : decode cX9_readLine 135 = .ok (.lload_n 1, 1) := by decide +kernel
theorem dX9_readLine_136 : decode cX9_readLine 136 = .ok (.ldc2_w 149, 3) := by decide +kernel
theorem dX9_readLine_139 : decode cX9_readLine 139 = .ok (.lcmp, 1) := by decide +kernel
theorem dX9_readLine_140 : decode cX9_readLine 140 = .ok (.ifCond .ne 7, 3) := by decide +kernel
theorem dX9_readLine_143 : decode cX9_readLine 143 = .ok (.aload_n 0, 1) := by decide +kernel
theorem dX9_readLine_144 : decode cX9_readLine 144 = .ok (.invokevirtual 260, 3) := by decide +kernel
theorem dX9_readLine_147 : decode cX9_readLine 147 = .ok (.lload_n 1, 1) := by decide +kernel
theorem dX9_readLine_148 : decode cX9_readLine 148 = .ok (.ldc2_w 153, 3) := by decide +kernel
theorem dX9_readLine_151 : decode cX9_readLine 151 = .ok (.lcmp, 1) := by decide +kernel
theorem dX9_readLine_152 : decode cX9_readLine 152 = .ok (.ifCond .ne 7, 3) := by decide +kernel
theorem dX9_readLine_155 : decode cX9_readLine 155 = .ok (.aload_n 0, 1) := by decide +kernel
theorem dX9_readLine_156 : decode cX9_readLine 156 = .ok (.invokevirtual 263, 3) := by decide +kernel
theorem dX9_readLine_159 : decode cX9_readLine 159 = .ok (.lload_n 1, 1) := by decide +kernel
theorem dX9_readLine_160 : decode cX9_readLine 160 = .ok (.ldc2_w 155, 3) := by decide +kernel
theorem dX9_readLine_163 : decode cX9_readLine 163 = .ok (.lcmp, 1) := by decide +kernel
theorem dX9_readLine_164 : decode cX9_readLine 164 = .ok (.ifCond .ne 19, 3) := by decide +kernel
theorem dX9_readLine_167 : decode cX9_readLine 167 = .ok (.aload_n 0, 1) := by decide +kernel
theorem dX9_readLine_168 : decode cX9_readLine 168 = .ok (.getfield 30, 3) := by decide +kernel
theorem dX9_readLine_171 : decode cX9_readLine 171 = .ok (.aload_n 0, 1) := by decide +kernel
theorem dX9_readLine_172 : decode cX9_readLine 172 = .ok (.getfield 230, 3) := by decide +kernel
theorem dX9_readLine_175 : decode cX9_readLine 175 = .ok (.aload_n 0, 1) := by decide +kernel
theorem dX9_readLine_176 : decode cX9_readLine 176 = .ok (.iconst 1, 1) := by decide +kernel
theorem dX9_readLine_177 : decode cX9_readLine 177 = .ok (.bipush 100, 2) := by decide +kernel
theorem dX9_readLine_179 : decode cX9_readLine 179 = .ok (.invokevirtual 266, 3) := by decide +kernel
theorem dX9_readLine_182 : decode cX9_readLine 182 = .ok (.iastore, 1) := by decide +kernel
theorem dX9_readLine_183 : decode cX9_readLine 183 = .ok (.lload_n 1, 1) := by decide +kernel
theorem dX9_readLine_184 : decode cX9_readLine 184 = .ok (.ldc2_w 157, 3) := by decide +kernel
theorem dX9_readLine_187 : decode cX9_readLine 187 = .ok (.lcmp, 1) := by decide +kernel
theorem dX9_readLine_188 : decode cX9_readLine 188 = .ok (.ifCond .ne 20, 3) := by decide +kernel
theorem dX9_readLine_191 : decode cX9_readLine 191 = .ok (.aload_n 0, 1) := by decide +kernel
theorem dX9_readLine_192 : decode cX9_readLine 192 = .ok (.getfield 33, 3) := by decide +kernel
theorem dX9_readLine_195 : decode cX9_readLine 195 = .ok (.aload_n 0, 1) := by decide +kernel
theorem dX9_readLine_196 : decode cX9_readLine 196 = .ok (.getfield 230, 3) := by decide +kernel
theorem dX9_readLine_199 : decode cX9_readLine 199 = .ok (.aload_n 0, 1) := by decide +kernel
theorem dX9_readLine_200 : decode cX9_readLine 200 = .ok (.iconst 2, 1) := by decide +kernel
theorem dX9_readLine_201 : decode cX9_readLine 201 = .ok (.sipush 999, 3) := by decide +kernel
theorem dX9_readLine_204 : decode cX9_readLine 204 = .ok (.invokevirtual 266, 3) := by decide +kernel
theorem dX9_readLine_207 : decode cX9_readLine 207 = .ok (.iastore, 1) := by decide +kernel
theorem dX9_readLine_208 : decode cX9_readLine 208 = .ok (.aload_n 0, 1) := by decide +kernel
theorem dX9_readLine_209 : decode cX9_readLine 209 = .ok (.aload_n 0, 1) := by decide +kernel
theorem dX9_readLine_210 : decode cX9_readLine 210 = .ok (.bipush 59, 2) := by decide +kernel
theorem dX9_readLine_212 : decode cX9_readLine 212 = .ok (.invokevirtual 269, 3) := by decide +kernel
theorem dX9_readLine_215 : decode cX9_readLine 215 = .ok (.invokevirtual 222, 3) := by decide +kernel
theorem dX9_readLine_218 : decode cX9_readLine 218 = .ok (.return_, 1) := by decide +kernel
set_option maxRecDepth 20000 in
theorem ggX9_known_X9_isGood : GoodIn wsX9_known wsX9_isGood := goodIn_r _ [7, 8, 57, 58, 59, 60, 61, 62, 63, 64, 65, 66, 67, 68, 69, 70, 71, 72, 73, 74, 75, 76, 77, 78, 79, 80, 81, 82, 83, 84, 85, 86, 87, 88, 89, 90, 91, 92, 93, 94, 95, 96, 97, 98, 99, 100, 101, 102, 103, 104, 105, 106, 107, 108, 109, 110, 111, 112, 113, 114, 115, 116, 117, 118, 119, 120] rfl rfl
set_option maxRecDepth 20000 in
theorem gX9_known_X9_isGood : GoodIn wsX9_known (wsV RX9 209 RX9 yX9_isGood wsX9_isGood) := goodIn_app (goodIn_of _ (by decide +kernel)) ggX9_known_X9_isGood
set_option maxRecDepth 20000 in
theorem ggX9_known_X9_misplaced : GoodIn wsX9_known wsX9_misplaced := goodIn_r _ [12, 1, 2, 13, 14, 15, 6, 16, 8, 17, 57, 58, 59, 60, 61, 62, 63, 64, 65, 66, 67, 68, 69, 70, 71, 72, 73, 74, 75, 76, 77, 78, 79, 80, 81, 82, 83, 84, 85, 86, 87, 88, 89, 90, 91, 92, 93, 94, 95, 96, 97, 98, 99, 100, 101, 102, 103, 104, 105, 106, 107, 108, 109, 110, 111, 112, 113, 114, 115, 116, 117, 118, 119, 120] rfl rfl
set_option maxRecDepth 20000 in
theorem gX9_known_X9_misplaced : GoodIn wsX9_known (wsV RX9 216 RX9 yX9_misplaced wsX9_misplaced) := goodIn_app (goodIn_of _ (by decide +kernel)) ggX9_known_X9_misplaced
set_option maxRecDepth 20000 in
theorem ggX9_known_X9_fails : GoodIn wsX9_known wsX9_fails := goodIn_r _ [16, 8, 17, 57, 58, 59, 60, 61, 62, 63, 64, 65, 66, 67, 68, 69, 70, 71, 72, 73, 74, 75, 76, 77, 78, 79, 80, 81, 82, 83, 84, 85, 86, 87, 88, 89, 90, 91, 92, 93, 94, 95, 96, 97, 98, 99, 100, 101, 102, 103, 104, 105, 106, 107, 108, 109, 110, 111, 112, 113, 114, 115, 116, 117, 118, 119, 120] rfl rfl
set_option maxRecDepth 20000 in
theorem gX9_known_X9_fails : GoodIn wsX9_known (wsV RX9 205 RX9 yX9_fails wsX9_fails) := goodIn_app (goodIn_of _ (by decide +kernel)) ggX9_known_X9_fails
set_option maxRecDepth 20000 in
theorem ggX9_known_X9_goOn : GoodIn wsX9_known wsX9_goOn := goodIn_r _ [21, 22, 2, 23, 1, 24, 25, 26, 27, 28, 6, 29, 30, 31, 32, 33, 34, 35, 36, 37, 38, 39, 40, 41, 42, 43, 44, 45, 46, 47, 48, 49, 50, 51, 52, 53, 54, 55, 56, 57, 58, 59, 60, 61, 62, 63, 64, 65, 66, 67, 68, 69, 70, 71, 72, 73, 74, 75, 76, 77, 78, 79, 80, 81, 82, 83, 84, 85, 86, 87, 88, 89, 90, 91, 92, 93, 94, 95, 96, 97, 98, 99, 100, 101, 102, 103, 104, 105, 106, 107, 108, 109, 110, 111, 112, 113, 114, 115, 116, 117, 118, 119, 120] rfl rfl
set_option maxRecDepth 20000 in
theorem gX9_known_X9_goOn : GoodIn wsX9_known (wsV RX9 213 RX9 yX9_goOn wsX9_goOn) := goodIn_app (goodIn_of _ (by decide +kernel)) ggX9_known_X9_goOn
theorem dX9_known_0 : decode cX9_known 0 = .ok (.aload_n 0, 1) := by decide +kernel
theorem dX9_known_1 : decode cX9_known 1 = .ok (.invokevirtual 209, 3) := by decide +kernel
theorem dX9_known_4 : decode cX9_known 4 = .ok (.ifCond .ne 5, 3) := by decide +kernel
theorem dX9_known_7 : decode cX9_known 7 = .ok (.iconst 0, 1) := by decide +kernel
theorem dX9_known_8 : decode cX9_known 8 = .ok (.ireturn, 1) := by decide +kernel
theorem dX9_known_9 : decode cX9_known 9 = .ok (.aload_n 0, 1) := by decide +kernel
theorem dX9_known_10 : decode cX9_known 10 = .ok (.getfield 181, 3) := by decide +kernel
theorem dX9_known_13 : decode cX9_known 13 = .ok (.iconst 2, 1) := by decide +kernel
theorem dX9_known_14 : decode cX9_known 14 = .ok (.if_icmp .eq 10, 3) := by decide +kernel
theorem dX9_known_17 : decode cX9_known 17 = .ok (.aload_n 0, 1) := by decide +kernel
theorem dX9_known_18 : decode cX9_known 18 = .ok (.invokevirtual 216, 3) := by decide +kernel
theorem dX9_known_21 : decode cX9_known 21 = .ok (.goto 23, 3) := by decide +kernel
theorem dX9_known_24 : decode cX9_known 24 = .ok (.iload_n 1, 1) := by decide +kernel
theorem dX9_known_25 : decode cX9_known 25 = .ok (.ifCond .ge 15, 3) := by decide +kernel
theorem dX9_known_28 : decode cX9_known 28 = .ok (.aload_n 0, 1) := by decide +kernel
theorem dX9_known_29 : decode cX9_known 29 = .ok (.iconst 5, 1) := by decide +kernel
theorem dX9_known_30 : decode cX9_known 30 = .ok (.aload_n 0, 1) := by decide +kernel
theorem dX9_known_31 : decode cX9_known 31 = .ok (.getfield 174, 3) := by decide +kernel
theorem dX9_known_34 : decode cX9_known 34 = .ok (.invokevirtual 205, 3) := by decide +kernel
theorem dX9_known_37 : decode cX9_known 37 = .ok (.goto 7, 3) := by decide +kernel
theorem dX9_known_40 : decode cX9_known 40 = .ok (.aload_n 0, 1) := by decide +kernel
theorem dX9_known_41 : decode cX9_known 41 = .ok (.invokevirtual 213, 3) := by decide +kernel
theorem dX9_known_44 : decode cX9_known 44 = .ok (.iload_n 1, 1) := by decide +kernel
theorem dX9_known_45 : decode cX9_known 45 = .ok (.ifCond .ge 7, 3) := by decide +kernel
theorem dX9_known_48 : decode cX9_known 48 = .ok (.iconst 0, 1) := by decide +kernel
theorem dX9_known_49 : decode cX9_known 49 = .ok (.goto 4, 3) := by decide +kernel
theorem dX9_known_52 : decode cX9_known 52 = .ok (.iload_n 1, 1) := by decide +kernel
theorem dX9_known_53 : decode cX9_known 53 = .ok (.ireturn, 1) := by decide +kernel
set_option maxRecDepth 20000 in
theorem ggX9_readStrand_X9_here : GoodIn wsX9_readStrand wsX9_here := goodIn_r _ [13, 14, 1, 15, 16, 17, 89, 90, 91, 92, 93, 94, 95, 96, 97, 98, 99, 100, 101, 102, 103, 104, 105, 106, 107, 108, 109, 110, 111, 112, 113, 114, 115, 116, 117, 118, 119, 120, 121, 122, 123, 124, 125, 126, 127, 128, 129, 130, 131, 132, 133, 134, 135, 136, 137, 138, 139, 140, 141, 142, 143, 144, 145, 146, 147, 148, 149, 150, 151, 152] rfl rfl
set_option maxRecDepth 20000 in
theorem gX9_readStrand_X9_here : GoodIn wsX9_readStrand (wsV RX9 272 RX9 yX9_here wsX9_here) := goodIn_app (goodIn_of _ (by decide +kernel)) ggX9_readStrand_X9_here
set_option maxRecDepth 20000 in
theorem ggX9_readStrand_X9_known : GoodIn wsX9_readStrand wsX9_known := goodIn_r _ [21, 15, 6, 22, 23, 24, 12, 25, 26, 27, 28, 29, 30, 31, 32, 33, 34, 35, 36, 37, 38, 39, 40, 41, 17, 42, 43, 44, 45, 46, 47, 48, 49, 50, 51, 52, 53, 54, 55, 56, 57, 8, 58, 59, 60, 61, 62, 63, 64, 65, 66, 67, 68, 69, 70, 71, 72, 89, 90, 91, 92, 93, 94, 95, 96, 97, 98, 99, 100, 101, 102, 103, 104, 105, 106, 107, 108, 109, 110, 111, 112, 113, 114, 115, 116, 117, 118, 119, 120, 121, 122, 123, 124, 125, 126, 127, 128, 129, 130, 131, 132, 133, 134, 135, 136, 137, 138, 139, 140, 141, 142, 143, 144, 145, 146, 147, 148, 149, 150, 151, 152] rfl rfl
set_option maxRecDepth 20000 in
theorem gX9_readStrand_X9_known : GoodIn wsX9_readStrand (wsV RX9 276 RX9 yX9_known wsX9_known) := goodIn_app (goodIn_of _ (by decide +kernel)) ggX9_readStrand_X9_known
set_option maxRecDepth 20000 in
theorem ggX9_readStrand_X9_isGood : GoodIn wsX9_readStrand wsX9_isGood := goodIn_r _ [25, 26, 89, 90, 91, 92, 93, 94, 95, 96, 97, 98, 99, 100, 101, 102, 103, 104, 105, 106, 107, 108, 109, 110, 111, 112, 113, 114, 115, 116, 117, 118, 119, 120, 121, 122, 123, 124, 125, 126, 127, 128, 129, 130, 131, 132, 133, 134, 135, 136, 137, 138, 139, 140, 141, 142, 143, 144, 145, 146, 147, 148, 149, 150, 151, 152] rfl rfl
set_option maxRecDepth 20000 in
theorem gX9_readStrand_X9_isGood : GoodIn wsX9_readStrand (wsV RX9 209 RX9 yX9_isGood wsX9_isGood) := goodIn_app (goodIn_of _ (by decide +kernel)) ggX9_readStrand_X9_isGood
set_option maxRecDepth 20000 in
theorem ggX9_readStrand_X9_fails : GoodIn wsX9_readStrand wsX9_fails := goodIn_r _ [34, 26, 35, 89, 90, 91, 92, 93, 94, 95, 96, 97, 98, 99, 100, 101, 102, 103, 104, 105, 106, 107, 108, 109, 110, 111, 112, 113, 114, 115, 116, 117, 118, 119, 120, 121, 122, 123, 124, 125, 126, 127, 128, 129, 130, 131, 132, 133, 134, 135, 136, 137, 138, 139, 140, 141, 142, 143, 144, 145, 146, 147, 148, 149, 150, 151, 152] rfl rfl
set_option maxRecDepth 20000 in
theorem gX9_readStrand_X9_fails : GoodIn wsX9_readStrand (wsV RX9 205 RX9 yX9_fails wsX9_fails) := goodIn_app (goodIn_of _ (by decide +kernel)) ggX9_readStrand_X9_fails
set_option maxRecDepth 20000 in
theorem ggX9_readStrand_X9_after : GoodIn wsX9_readStrand wsX9_after := goodIn_r _ [76, 77, 78, 79, 12, 80, 15, 17, 81, 82, 83, 84, 22, 23, 24, 25, 26, 36, 37, 38, 39, 40, 6, 41, 42, 43, 44, 45, 46, 47, 48, 49, 50, 51, 52, 53, 54, 55, 56, 57, 8, 58, 59, 60, 61, 62, 63, 64, 65, 66, 67, 68, 69, 70, 71, 72, 27, 28, 29, 30, 31, 32, 33, 34, 35, 85, 86, 87, 88, 89, 90, 91, 92, 93, 94, 95, 96, 97, 98, 99, 100, 101, 102, 103, 104, 105, 106, 107, 108, 109, 110, 111, 112, 113, 114, 115, 116, 117, 118, 119, 120, 121, 122, 123, 124, 125, 126, 127, 128, 129, 130, 131, 132, 133, 134, 135, 136, 137, 138, 139, 140, 141, 142, 143, 144, 145, 146, 147, 148, 149, 150, 151, 152] rfl rfl
set_option maxRecDepth 20000 in
theorem gX9_readStrand_X9_after : GoodIn wsX9_readStrand (wsV RX9 256 RX9 yX9_after wsX9_after) := goodIn_app (goodIn_of _ (by decide +kernel)) ggX9_readStrand_X9_after
theorem dX9_readStrand_0 : decode cX9_readStrand 0 = .ok (.bipush 12, 2) := by decide +kernel
theorem dX9_readStrand_2 : decode cX9_readStrand 2 = .ok (.aload_n 0, 1) := by decide +kernel
theorem dX9_readStrand_3 : decode cX9_readStrand 3 = .ok (.getfield 230, 3) := by decide +kernel
theorem dX9_readStrand_6 : decode cX9_readStrand 6 = .ok (.imul, 1) := by decide +kernel
theorem dX9_readStrand_7 : decode cX9_readStrand 7 = .ok (.aload_n 0, 1) := by decide +kernel
theorem dX9_readStrand_8 : decode cX9_readStrand 8 = .ok (.getfield 24, 3) := by decide +kernel
theorem dX9_readStrand_11 : decode cX9_readStrand 11 = .ok (.aload_n 0, 1) := by decide +kernel
theorem dX9_readStrand_12 : decode cX9_readStrand 12 = .ok (.getfield 230, 3) := by decide +kernel
theorem dX9_readStrand_15 : decode cX9_readStrand 15 = .ok (.iaload, 1) := by decide +kernel
theorem dX9_readStrand_16 : decode cX9_readStrand 16 = .ok (.iadd, 1) := by decide +kernel
theorem dX9_readStrand_17 : decode cX9_readStrand 17 = .ok (.istore_n 1, 1) := by decide +kernel
theorem dX9_readStrand_18 : decode cX9_readStrand 18 = .ok (.aload_n 0, 1) := by decide +kernel
theorem dX9_readStrand_19 : decode cX9_readStrand 19 = .ok (.getfield 42, 3) := by decide +kernel
theorem dX9_readStrand_22 : decode cX9_readStrand 22 = .ok (.iload_n 1, 1) := by decide +kernel
theorem dX9_readStrand_23 : decode cX9_readStrand 23 = .ok (.aload_n 0, 1) := by decide +kernel
theorem dX9_readStrand_24 : decode cX9_readStrand 24 = .ok (.aload_n 0, 1) := by decide +kernel
theorem dX9_readStrand_25 : decode cX9_readStrand 25 = .ok (.invokevirtual 272, 3) := by decide +kernel
theorem dX9_readStrand_28 : decode cX9_readStrand 28 = .ok (.invokevirtual 276, 3) := by decide +kernel
theorem dX9_readStrand_31 : decode cX9_readStrand 31 = .ok (.iastore, 1) := by decide +kernel
theorem dX9_readStrand_32 : decode cX9_readStrand 32 = .ok (.aload_n 0, 1) := by decide +kernel
theorem dX9_readStrand_33 : decode cX9_readStrand 33 = .ok (.invokevirtual 209, 3) := by decide +kernel
theorem dX9_readStrand_36 : decode cX9_readStrand 36 = .ok (.ifCond .ne 4, 3) := by decide +kernel
theorem dX9_readStrand_39 : decode cX9_readStrand 39 = .ok (.return_, 1) := by decide +kernel
theorem dX9_readStrand_40 : decode cX9_readStrand 40 = .ok (.aload_n 0, 1) := by decide +kernel
theorem dX9_readStrand_41 : decode cX9_readStrand 41 = .ok (.invokevirtual 272, 3) := by decide +kernel
theorem dX9_readStrand_44 : decode cX9_readStrand 44 = .ok (.istore_n 2, 1) := by decide +kernel
theorem dX9_readStrand_45 : decode cX9_readStrand 45 = .ok (.iload_n 2, 1) := by decide +kernel
theorem dX9_readStrand_46 : decode cX9_readStrand 46 = .ok (.ifCond .lt 34, 3) := by decide +kernel
theorem dX9_readStrand_49 : decode cX9_readStrand 49 = .ok (.iload_n 2, 1) := by decide +kernel
theorem dX9_readStrand_50 : decode cX9_readStrand 50 = .ok (.aload_n 0, 1) := by decide +kernel
theorem dX9_readStrand_51 : decode cX9_readStrand 51 = .ok (.getfield 42, 3) := by decide +kernel
theorem dX9_readStrand_54 : decode cX9_readStrand 54 = .ok (.iload_n 1, 1) := by decide +kernel
theorem dX9_readStrand_55 : decode cX9_readStrand 55 = .ok (.iaload, 1) := by decide +kernel
theorem dX9_readStrand_56 : decode cX9_readStrand 56 = .ok (.if_icmp .eq 20, 3) := by decide +kernel
theorem dX9_readStrand_59 : decode cX9_readStrand 59 = .ok (.aload_n 0, 1) := by decide +kernel
theorem dX9_readStrand_60 : decode cX9_readStrand 60 = .ok (.getfield 39, 3) := by decide +kernel
theorem dX9_readStrand_63 : decode cX9_readStrand 63 = .ok (.bipush 10, 2) := by decide +kernel
theorem dX9_readStrand_65 : decode cX9_readStrand 65 = .ok (.aload_n 0, 1) := by decide +kernel
theorem dX9_readStrand_66 : decode cX9_readStrand 66 = .ok (.getfield 230, 3) := by decide +kernel
theorem dX9_readStrand_69 : decode cX9_readStrand 69 = .ok (.imul, 1) := by decide +kernel
theorem dX9_readStrand_70 : decode cX9_readStrand 70 = .ok (.iload_n 2, 1) := by decide +kernel
theorem dX9_readStrand_71 : decode cX9_readStrand 71 = .ok (.iadd, 1) := by decide +kernel
theorem dX9_readStrand_72 : decode cX9_readStrand 72 = .ok (.iaload, 1) := by decide +kernel
theorem dX9_readStrand_73 : decode cX9_readStrand 73 = .ok (.ifCond .ne 7, 3) := by decide +kernel
theorem dX9_readStrand_76 : decode cX9_readStrand 76 = .ok (.iconst 1, 1) := by decide +kernel
theorem dX9_readStrand_77 : decode cX9_readStrand 77 = .ok (.goto 4, 3) := by decide +kernel
theorem dX9_readStrand_80 : decode cX9_readStrand 80 = .ok (.iconst 0, 1) := by decide +kernel
theorem dX9_readStrand_81 : decode cX9_readStrand 81 = .ok (.istore_n 3, 1) := by decide +kernel
theorem dX9_readStrand_82 : decode cX9_readStrand 82 = .ok (.bipush 12, 2) := by decide +kernel
theorem dX9_readStrand_84 : decode cX9_readStrand 84 = .ok (.aload_n 0, 1) := by decide +kernel
theorem dX9_readStrand_85 : decode cX9_readStrand 85 = .ok (.getfield 230, 3) := by decide +kernel
theorem dX9_readStrand_88 : decode cX9_readStrand 88 = .ok (.imul, 1) := by decide +kernel
theorem dX9_readStrand_89 : decode cX9_readStrand 89 = .ok (.istore 4, 2) := by decide +kernel
theorem dX9_readStrand_91 : decode cX9_readStrand 91 = .ok (.iload 4, 2) := by decide +kernel
theorem dX9_readStrand_93 : decode cX9_readStrand 93 = .ok (.iload_n 1, 1) := by decide +kernel
theorem dX9_readStrand_94 : decode cX9_readStrand 94 = .ok (.if_icmp .ge 46, 3) := by decide +kernel
theorem dX9_readStrand_97 : decode cX9_readStrand 97 = .ok (.iload_n 3, 1) := by decide +kernel
theorem dX9_readStrand_98 : decode cX9_readStrand 98 = .ok (.ifCond .ne 30, 3) := by decide +kernel
theorem dX9_readStrand_101 : decode cX9_readStrand 101 = .ok (.aload_n 0, 1) := by decide +kernel
theorem dX9_readStrand_102 : decode cX9_readStrand 102 = .ok (.getfield 42, 3) := by decide +kernel
theorem dX9_readStrand_105 : decode cX9_readStrand 105 = .ok (.iload 4, 2) := by decide +kernel
theorem dX9_readStrand_107 : decode cX9_readStrand 107 = .ok (.iaload, 1) := by decide +kernel
theorem dX9_readStrand_108 : decode cX9_readStrand 108 = .ok (.aload_n 0, 1) := by decide +kernel
theorem dX9_readStrand_109 : decode cX9_readStrand 109 = .ok (.getfield 42, 3) := by decide +kernel
theorem dX9_readStrand_112 : decode cX9_readStrand 112 = .ok (.iload_n 1, 1) := by decide +kernel
theorem dX9_readStrand_113 : decode cX9_readStrand 113 = .ok (.iaload, 1) := by decide +kernel
theorem dX9_readStrand_114 : decode cX9_readStrand 114 = .ok (.if_icmp .ne 18, 3) := by decide +kernel
theorem dX9_readStrand_117 : decode cX9_readStrand 117 = .ok (.aload_n 0, 1) := by decide +kernel
theorem dX9_readStrand_118 : decode cX9_readStrand 118 = .ok (.getfield 45, 3) := by decide +kernel
theorem dX9_readStrand_121 : decode cX9_readStrand 121 = .ok (.iload 4, 2) := by decide +kernel
theorem dX9_readStrand_123 : decode cX9_readStrand 123 = .ok (.iaload, 1) := by decide +kernel
theorem dX9_readStrand_124 : decode cX9_readStrand 124 = .ok (.iload_n 2, 1) := by decide +kernel
theorem dX9_readStrand_125 : decode cX9_readStrand 125 = .ok (.if_icmp .ne 7, 3) := by decide +kernel
theorem dX9_readStrand_128 : decode cX9_readStrand 128 = .ok (.iconst 1, 1) := by decide +kernel
theorem dX9_readStrand_129 : decode cX9_readStrand 129 = .ok (.goto 4, 3) := by decide +kernel
theorem dX9_readStrand_132 : decode cX9_readStrand 132 = .ok (.iconst 0, 1) := by decide +kernel
theorem dX9_readStrand_133 : decode cX9_readStrand 133 = .ok (.istore_n 3, 1) := by decide +kernel
theorem dX9_readStrand_134 : decode cX9_readStrand 134 = .ok (.iinc 4 1, 3) := by decide +kernel
theorem dX9_readStrand_137 : decode cX9_readStrand 137 = .ok (.goto (-46), 3) := by decide +kernel
theorem dX9_readStrand_140 : decode cX9_readStrand 140 = .ok (.iload_n 3, 1) := by decide +kernel
theorem dX9_readStrand_141 : decode cX9_readStrand 141 = .ok (.ifCond .eq 12, 3) := by decide +kernel
theorem dX9_readStrand_144 : decode cX9_readStrand 144 = .ok (.aload_n 0, 1) := by decide +kernel
theorem dX9_readStrand_145 : decode cX9_readStrand 145 = .ok (.iconst 3, 1) := by decide +kernel
theorem dX9_readStrand_146 : decode cX9_readStrand 146 = .ok (.aload_n 0, 1) := by decide +kernel
theorem dX9_readStrand_147 : decode cX9_readStrand 147 = .ok (.getfield 174, 3) := by decide +kernel
theorem dX9_readStrand_150 : decode cX9_readStrand 150 = .ok (.invokevirtual 205, 3) := by decide +kernel
theorem dX9_readStrand_153 : decode cX9_readStrand 153 = .ok (.aload_n 0, 1) := by decide +kernel
theorem dX9_readStrand_154 : decode cX9_readStrand 154 = .ok (.getfield 45, 3) := by decide +kernel
theorem dX9_readStrand_157 : decode cX9_readStrand 157 = .ok (.iload_n 1, 1) := by decide +kernel
theorem dX9_readStrand_158 : decode cX9_readStrand 158 = .ok (.aload_n 0, 1) := by decide +kernel
theorem dX9_readStrand_159 : decode cX9_readStrand 159 = .ok (.iload_n 2, 1) := by decide +kernel
theorem dX9_readStrand_160 : decode cX9_readStrand 160 = .ok (.invokevirtual 276, 3) := by decide +kernel
theorem dX9_readStrand_163 : decode cX9_readStrand 163 = .ok (.iastore, 1) := by decide +kernel
theorem dX9_readStrand_164 : decode cX9_readStrand 164 = .ok (.aload_n 0, 1) := by decide +kernel
theorem dX9_readStrand_165 : decode cX9_readStrand 165 = .ok (.getfield 48, 3) := by decide +kernel
theorem dX9_readStrand_168 : decode cX9_readStrand 168 = .ok (.iload_n 1, 1) := by decide +kernel
theorem dX9_readStrand_169 : decode cX9_readStrand 169 = .ok (.aload_n 0, 1) := by decide +kernel
theorem dX9_readStrand_170 : decode cX9_readStrand 170 = .ok (.ldc2_w 151, 3) := by decide +kernel
theorem dX9_readStrand_173 : decode cX9_readStrand 173 = .ok (.iconst 1, 1) := by decide +kernel
theorem dX9_readStrand_174 : decode cX9_readStrand 174 = .ok (.bipush 20, 2) := by decide +kernel
theorem dX9_readStrand_176 : decode cX9_readStrand 176 = .ok (.invokevirtual 256, 3) := by decide +kernel
theorem dX9_readStrand_179 : decode cX9_readStrand 179 = .ok (.iastore, 1) := by decide +kernel
theorem dX9_readStrand_180 : decode cX9_readStrand 180 = .ok (.aload_n 0, 1) := by decide +kernel
theorem dX9_readStrand_181 : decode cX9_readStrand 181 = .ok (.getfield 24, 3) := by decide +kernel
theorem dX9_readStrand_184 : decode cX9_readStrand 184 = .ok (.aload_n 0, 1) := by decide +kernel
theorem dX9_readStrand_185 : decode cX9_readStrand 185 = .ok (.getfield 230, 3) := by decide +kernel
theorem dX9_readStrand_188 : decode cX9_readStrand 188 = .ok (.dup2, 1) := by decide +kernel
theorem dX9_readStrand_189 : decode cX9_readStrand 189 = .ok (.iaload, 1) := by decide +kernel
theorem dX9_readStrand_190 : decode cX9_readStrand 190 = .ok (.iconst 1, 1) := by decide +kernel
theorem dX9_readStrand_191 : decode cX9_readStrand 191 = .ok (.iadd, 1) := by decide +kernel
theorem dX9_readStrand_192 : decode cX9_readStrand 192 = .ok (.iastore, 1) := by decide +kernel
theorem dX9_readStrand_193 : decode cX9_readStrand 193 = .ok (.return_, 1) := by decide +kernel
set_option maxRecDepth 20000 in
theorem ggX9_readRule_X9_e : GoodIn wsX9_readRule wsX9_e := goodIn_r _ [11, 12, 13, 14, 15, 16, 10, 17, 18, 19, 20, 21, 22, 23, 24, 25, 26, 27, 28, 29, 30, 2, 3, 31, 32, 33, 34, 35, 36, 37, 38, 39, 40, 41, 42, 43, 44, 45, 46, 47, 48, 49, 50, 51, 52, 53, 54, 55, 56, 57, 58, 59, 60, 61, 62, 63, 64, 65, 66, 67, 68, 69, 70, 71, 72, 73, 74, 75, 76, 77, 78, 79, 80, 81, 82, 83, 84, 85, 86, 87, 88, 89, 90, 91, 92, 93, 94, 95, 96, 5, 97, 98, 99, 100, 101, 102, 103, 104, 105, 106, 107, 108, 109, 110, 111, 112, 113, 114, 115, 116, 117, 118, 119, 120, 121, 122, 123, 124, 125, 126, 127, 128, 129, 130, 131, 132, 133, 134, 135, 136, 137, 138, 139, 140, 141, 142, 143, 144, 145, 146, 147, 148, 149, 150, 151, 152, 153, 154, 155, 156, 157, 158, 159, 160, 161, 162, 163, 164, 165, 166, 167, 168, 169, 170, 171, 172, 173, 174, 175, 176, 177] rfl rfl
set_option maxRecDepth 20000 in
theorem gX9_readRule_X9_e : GoodIn wsX9_readRule (wsV RX9 282 RX9 yX9_e wsX9_e) := goodIn_app (goodIn_of _ (by decide +kernel)) ggX9_readRule_X9_e
theorem dX9_readRule_0 : decode cX9_readRule 0 = .ok (.aload_n 0, 1) := by decide +kernel
theorem dX9_readRule_1 : decode cX9_readRule 1 = .ok (.getfield 36, 3) := by decide +kernel
theorem dX9_readRule_4 : decode cX9_readRule 4 = .ok (.aload_n 0, 1) := by decide +kernel
theorem dX9_readRule_5 : decode cX9_readRule 5 = .ok (.getfield 230, 3) := by decide +kernel
theorem dX9_readRule_8 : decode cX9_readRule 8 = .ok (.dup2, 1) := by decide +kernel
theorem dX9_readRule_9 : decode cX9_readRule 9 = .ok (.iaload, 1) := by decide +kernel
theorem dX9_readRule_10 : decode cX9_readRule 10 = .ok (.iconst 1, 1) := by decide +kernel
theorem dX9_readRule_11 : decode cX9_readRule 11 = .ok (.ior, 1) := by decide +kernel
theorem dX9_readRule_12 : decode cX9_readRule 12 = .ok (.iastore, 1) := by decide +kernel
theorem dX9_readRule_13 : decode cX9_readRule 13 = .ok (.aload_n 0, 1) := by decide +kernel
theorem dX9_readRule_14 : decode cX9_readRule 14 = .ok (.iconst 0, 1) := by decide +kernel
theorem dX9_readRule_15 : decode cX9_readRule 15 = .ok (.putfield 279, 3) := by decide +kernel
theorem dX9_readRule_18 : decode cX9_readRule 18 = .ok (.aload_n 0, 1) := by decide +kernel
theorem dX9_readRule_19 : decode cX9_readRule 19 = .ok (.getfield 51, 3) := by decide +kernel
theorem dX9_readRule_22 : decode cX9_readRule 22 = .ok (.aload_n 0, 1) := by decide +kernel
theorem dX9_readRule_23 : decode cX9_readRule 23 = .ok (.getfield 230, 3) := by decide +kernel
theorem dX9_readRule_26 : decode cX9_readRule 26 = .ok (.aload_n 0, 1) := by decide +kernel
theorem dX9_readRule_27 : decode cX9_readRule 27 = .ok (.getfield 233, 3) := by decide +kernel
theorem dX9_readRule_30 : decode cX9_readRule 30 = .ok (.iastore, 1) := by decide +kernel
theorem dX9_readRule_31 : decode cX9_readRule 31 = .ok (.aload_n 0, 1) := by decide +kernel
theorem dX9_readRule_32 : decode cX9_readRule 32 = .ok (.invokevirtual 282, 3) := by decide +kernel
theorem dX9_readRule_35 : decode cX9_readRule 35 = .ok (.aload_n 0, 1) := by decide +kernel
theorem dX9_readRule_36 : decode cX9_readRule 36 = .ok (.getfield 54, 3) := by decide +kernel
theorem dX9_readRule_39 : decode cX9_readRule 39 = .ok (.aload_n 0, 1) := by decide +kernel
theorem dX9_readRule_40 : decode cX9_readRule 40 = .ok (.getfield 230, 3) := by decide +kernel
theorem dX9_readRule_43 : decode cX9_readRule 43 = .ok (.aload_n 0, 1) := by decide +kernel
theorem dX9_readRule_44 : decode cX9_readRule 44 = .ok (.getfield 233, 3) := by decide +kernel
theorem dX9_readRule_47 : decode cX9_readRule 47 = .ok (.iastore, 1) := by decide +kernel
theorem dX9_readRule_48 : decode cX9_readRule 48 = .ok (.return_, 1) := by decide +kernel
set_option maxRecDepth 20000 in
theorem ggX9_e_X9_pushE : GoodIn wsX9_e wsX9_pushE := goodIn_r _ [7, 8, 1, 9, 107, 108, 109, 110, 111, 112, 113, 114, 115, 116, 117, 118, 119, 120, 121, 122, 123, 124, 125, 126, 127, 128, 129, 130, 131, 132, 133, 134, 135, 136, 137, 138, 139, 140, 141, 142, 143, 144, 145, 146, 147, 148, 149, 150, 151, 152, 153, 154, 155, 156, 157, 158, 159, 160, 161, 162, 163, 164, 165, 166, 167, 168, 169, 170] rfl rfl
set_option maxRecDepth 20000 in
theorem gX9_e_X9_pushE : GoodIn wsX9_e (wsV RX9 291 RX9 yX9_pushE wsX9_pushE) := goodIn_app (goodIn_of _ (by decide +kernel)) ggX9_e_X9_pushE
set_option maxRecDepth 20000 in
theorem ggX9_e_X9_isGood : GoodIn wsX9_e wsX9_isGood := goodIn_r _ [13, 14, 107, 108, 109, 110, 111, 112, 113, 114, 115, 116, 117, 118, 119, 120, 121, 122, 123, 124, 125, 126, 127, 128, 129, 130, 131, 132, 133, 134, 135, 136, 137, 138, 139, 140, 141, 142, 143, 144, 145, 146, 147, 148, 149, 150, 151, 152, 153, 154, 155, 156, 157, 158, 159, 160, 161, 162, 163, 164, 165, 166, 167, 168, 169, 170] rfl rfl
set_option maxRecDepth 20000 in
theorem gX9_e_X9_isGood : GoodIn wsX9_e (wsV RX9 209 RX9 yX9_isGood wsX9_isGood) := goodIn_app (goodIn_of _ (by decide +kernel)) ggX9_e_X9_isGood
set_option maxRecDepth 20000 in
theorem ggX9_e_X9_unit : GoodIn wsX9_e wsX9_unit := goodIn_r _ [18, 8, 1, 19, 20, 21, 22, 23, 2, 24, 25, 26, 27, 6, 28, 29, 30, 31, 32, 33, 34, 35, 36, 37, 38, 39, 40, 41, 42, 43, 44, 45, 46, 47, 48, 49, 50, 51, 52, 53, 54, 55, 56, 57, 14, 58, 10, 11, 12, 13, 59, 60, 61, 62, 63, 64, 65, 66, 67, 68, 69, 70, 71, 72, 73, 74, 75, 76, 77, 78, 79, 80, 81, 82, 83, 3, 4, 5, 7, 9, 84, 85, 86, 87, 88, 89, 90, 107, 108, 109, 110, 111, 112, 113, 114, 115, 116, 117, 118, 119, 120, 121, 122, 123, 124, 125, 126, 127, 128, 129, 130, 131, 132, 133, 134, 135, 136, 137, 138, 139, 140, 141, 142, 143, 144, 145, 146, 147, 148, 149, 150, 151, 152, 153, 154, 155, 156, 157, 158, 159, 160, 161, 162, 163, 164, 165, 166, 167, 168, 169, 170] rfl rfl
set_option maxRecDepth 20000 in
theorem gX9_e_X9_unit : GoodIn wsX9_e (wsV RX9 294 RX9 yX9_unit wsX9_unit) := goodIn_app (goodIn_of _ (by decide +kernel)) ggX9_e_X9_unit
set_option maxRecDepth 20000 in
theorem ggX9_e_X9_behindUnit : GoodIn wsX9_e wsX9_behindUnit := goodIn_r _ [94, 8, 1, 2, 9, 34, 95, 96, 97, 6, 98, 77, 76, 25, 26, 27, 28, 23, 29, 30, 31, 32, 33, 35, 36, 37, 38, 39, 40, 99, 100, 101, 102, 50, 51, 52, 53, 54, 55, 56, 57, 14, 58, 84, 85, 86, 87, 88, 89, 90, 3, 4, 5, 7, 59, 60, 61, 62, 63, 24, 64, 65, 66, 67, 68, 69, 70, 71, 48, 72, 45, 73, 74, 75, 46, 47, 49, 19, 78, 79, 80, 81, 82, 83, 103, 104, 105, 106, 10, 11, 12, 13, 107, 108, 109, 110, 111, 112, 113, 114, 115, 116, 117, 118, 119, 120, 121, 122, 123, 124, 125, 126, 127, 128, 129, 130, 131, 132, 133, 134, 135, 136, 137, 138, 139, 140, 141, 142, 143, 144, 145, 146, 147, 148, 149, 150, 151, 152, 153, 154, 155, 156, 157, 158, 159, 160, 161, 162, 163, 164, 165, 166, 167, 168, 169, 170] rfl rfl
set_option maxRecDepth 20000 in
theorem gX9_e_X9_behindUnit : GoodIn wsX9_e (wsV RX9 297 RX9 yX9_behindUnit wsX9_behindUnit) := goodIn_app (goodIn_of _ (by decide +kernel)) ggX9_e_X9_behindUnit
theorem dX9_e_0 : decode cX9_e 0 = .ok (.aload_n 0, 1) := by decide +kernel
theorem dX9_e_1 : decode cX9_e 1 = .ok (.iconst 0, 1) := by decide +kernel
theorem dX9_e_2 : decode cX9_e 2 = .ok (.putfield 285, 3) := by decide +kernel
theorem dX9_e_5 : decode cX9_e 5 = .ok (.aload_n 0, 1) := by decide +kernel
theorem dX9_e_6 : decode cX9_e 6 = .ok (.iconst 0, 1) := by decide +kernel
theorem dX9_e_7 : decode cX9_e 7 = .ok (.putfield 288, 3) := by decide +kernel
theorem dX9_e_10 : decode cX9_e 10 = .ok (.aload_n 0, 1) := by decide +kernel
theorem dX9_e_11 : decode cX9_e 11 = .ok (.bipush 8, 2) := by decide +kernel
theorem dX9_e_13 : decode cX9_e 13 = .ok (.iconst 0, 1) := by decide +kernel
theorem dX9_e_14 : decode cX9_e 14 = .ok (.invokevirtual 291, 3) := by decide +kernel
theorem dX9_e_17 : decode cX9_e 17 = .ok (.iconst 1, 1) := by decide +kernel
theorem dX9_e_18 : decode cX9_e 18 = .ok (.istore_n 1, 1) := by decide +kernel
theorem dX9_e_19 : decode cX9_e 19 = .ok (.aload_n 0, 1) := by decide +kernel
theorem dX9_e_20 : decode cX9_e 20 = .ok (.invokevirtual 209, 3) := by decide +kernel
theorem dX9_e_23 : decode cX9_e 23 = .ok (.ifCond .eq 29, 3) := by decide +kernel
theorem dX9_e_26 : decode cX9_e 26 = .ok (.aload_n 0, 1) := by decide +kernel
theorem dX9_e_27 : decode cX9_e 27 = .ok (.getfield 285, 3) := by decide +kernel
theorem dX9_e_30 : decode cX9_e 30 = .ok (.ifCond .le 22, 3) := by decide +kernel
theorem dX9_e_33 : decode cX9_e 33 = .ok (.iload_n 1, 1) := by decide +kernel
theorem dX9_e_34 : decode cX9_e 34 = .ok (.ifCond .eq 10, 3) := by decide +kernel
theorem dX9_e_37 : decode cX9_e 37 = .ok (.aload_n 0, 1) := by decide +kernel
theorem dX9_e_38 : decode cX9_e 38 = .ok (.invokevirtual 294, 3) := by decide +kernel
theorem dX9_e_41 : decode cX9_e 41 = .ok (.goto 7, 3) := by decide +kernel
theorem dX9_e_44 : decode cX9_e 44 = .ok (.aload_n 0, 1) := by decide +kernel
theorem dX9_e_45 : decode cX9_e 45 = .ok (.invokevirtual 297, 3) := by decide +kernel
theorem dX9_e_48 : decode cX9_e 48 = .ok (.istore_n 1, 1) := by decide +kernel
theorem dX9_e_49 : decode cX9_e 49 = .ok (.goto (-30), 3) := by decide +kernel
theorem dX9_e_52 : decode cX9_e 52 = .ok (.return_, 1) := by decide +kernel
theorem in_X9_e_X9 : ∀ w ∈ wsX90, w ∈ wsX9_e := fun _ h => List.mem_cons_of_mem _ (List.mem_append_right _ h)
theorem in_X9_readRule_X9 : ∀ w ∈ wsX90, w ∈ wsX9_readRule := fun _ h => List.mem_cons_of_mem _ (List.mem_append_right _ h)
theorem in_X9_known_X9 : ∀ w ∈ wsX90, w ∈ wsX9_known := fun _ h => List.mem_cons_of_mem _ (List.mem_append_right _ h)
theorem in_X9_readStrand_X9 : ∀ w ∈ wsX90, w ∈ wsX9_readStrand := fun _ h => List.mem_cons_of_mem _ (List.mem_append_right _ h)
theorem in_X9_readLine_X9 : ∀ w ∈ wsX90, w ∈ wsX9_readLine := fun _ h => List.mem_cons_of_mem _ (List.mem_append_right _ h)
set_option maxHeartbeats 4000000 in
set_option maxRecDepth 100000 in
theorem s_X9_e_0 (l : Launch) (B0 : Nat) (adK adV : Nat → Nat) (D : va_G) (cy : Nat → ClassId) (ad : Nat → Nat) (fr0 : Nat → va_E) (c_text : Nat → Int32) (m_taped : Int32) (m_size : Int32) (m_faultKind : Int32) (m_faultPlace : Int32) (m_at : Int32) (m_end : Int32) (m_token : Int32) (m_number : Int32) (m_name : Int64) (c_points : Nat → Int32) (c_strands : Nat → Int32) (c_units : Nat → Int32) (c_told : Nat → Int32) (c_ruleFrom : Nat → Int32) (c_ruleTo : Nat → Int32) (c_code : Nat → Int32) (c_eWhat : Nat → Int32) (c_eSign : Nat → Int32) (m_bank : Int32) (m_rb : Int32) (m_codes : Int32) (m_within : Int32) (m_piled : Int32) (m_unitsInRule : Int32) (m_askStrand : Int32) (m_askTied : Int32) (m_thoughtClaim : Int32) (m_thoughtNeed : Int32) (m_thoughtAll : Int32) (c_roundOf : Nat → Int32) (m_acts : Int32) (m_undone : Int32) (m_laid : Int32) (m_firstMove : Int32) (m_seens : Int32) (m_time : Int32) (m_waysNow : Int32) (m_fitting : Int32) (f : Nat → va_E) (hT : TYm ad cy fr0 c_text m_taped m_size m_faultKind m_faultPlace m_at m_end m_token m_number m_name c_points c_strands c_units c_told c_ruleFrom c_ruleTo c_code c_eWhat c_eSign m_bank m_rb m_codes m_within m_piled m_unitsInRule m_askStrand m_askTied m_thoughtClaim m_thoughtNeed m_thoughtAll c_roundOf m_acts m_undone m_laid m_firstMove m_seens m_time m_waysNow m_fitting f) (hph_m_end : 0 ≤ m_end.toInt ∧ m_end.toInt ≤ 1600) (hh0 : ((m_token.toInt = 0 ∧ m_at.toInt = m_size.toInt ∧ m_end.toInt = m_size.toInt) ∨ (1 ≤ m_token.toInt ∧ m_at.toInt < m_end.toInt ∧ m_end.toInt ≤ m_size.toInt))) (hh1 : m_unitsInRule.toInt = 0) (hh2 : (c_ruleFrom m_rb.toNatClampNeg).toInt = m_codes.toInt) (hh3 : (c_ruleFrom m_rb.toNatClampNeg).toInt = 560 * m_rb.toInt) (hh4 : (0 ≤ m_rb.toInt ∧ m_rb.toInt ≤ 1)) (sz : Nat) : TtV l yX9_e wsX9_e 4 86 [.ref (ad 148)] B0 adK adV D cy ad f sz (fun (g : Nat → va_E) => True ∧ (∃ (m_faultKind' : Int32) (m_faultPlace' : Int32) (m_at' : Int32) (m_end' : Int32) (m_token' : Int32) (m_number' : Int32) (m_name' : Int64) (c_units' : Nat → Int32) (c_code' : Nat → Int32) (c_eWhat' : Nat → Int32) (c_eSign' : Nat → Int32) (m_codes' : Int32) (m_within' : Int32) (m_piled' : Int32) (m_unitsInRule' : Int32), TYm ad cy fr0 c_text m_taped m_size m_faultKind' m_faultPlace' m_at' m_end' m_token' m_number' m_name' c_points c_strands c_units' c_told c_ruleFrom c_ruleTo c_code' c_eWhat' c_eSign' m_bank m_rb m_codes' m_within' m_piled' m_unitsInRule' m_askStrand m_askTied m_thoughtClaim m_thoughtNeed m_thoughtAll c_roundOf m_acts m_undone m_laid m_firstMove m_seens m_time m_waysNow m_fitting g ∧ (0 ≤ m_end'.toInt ∧ m_end'.toInt ≤ 1600) ∧ ((m_token'.toInt = 0 ∧ m_at'.toInt = m_size.toInt ∧ m_end'.toInt = m_size.toInt) ∨ (1 ≤ m_token'.toInt ∧ m_at'.toInt < m_end'.toInt ∧ m_end'.toInt ≤ m_size.toInt)) ∧ m_at.toInt ≤ m_at'.toInt ∧ ((c_ruleFrom m_rb.toNatClampNeg).toInt ≤ m_codes'.toInt ∧ m_codes'.toInt ≤ 560 * m_rb.toInt + 560) ∧ okcZ c_code' (c_ruleFrom m_rb.toNatClampNeg) m_codes'.toInt ∧ FrC c_code c_code' m_rb)) := by
  refine TtV.of (cc := cX9_e) (maxL := 2) (own := RX9) (by decide) rfl (Nat.le_of_ble_eq_true rfl) rfl ?_
  intro p e s m below meth c A ls hx hb hr hml hts hown hlk hK hE hP hD hS hA hAB hl
  have hl : lv_has ls 2 [(0, .ref (ad 148))] := hl
  refine st0 (fun H locs hP hS => ?_) hP hS
  have j19 : ∀ (N : Nat) (f : Nat → va_E) (H : Heap) (locs : List Loc) (ls : Array Slot) (v19_l1 : Int32) (v19_p_m_faultKind : Int32) (v19_p_m_faultPlace : Int32) (v19_p_m_at : Int32) (v19_p_m_end : Int32) (v19_p_m_token : Int32) (v19_p_m_number : Int32) (v19_p_m_name : Int64) (v19_p_c_units : Nat → Int32) (v19_p_c_code : Nat → Int32) (v19_p_c_eWhat : Nat → Int32) (v19_p_c_eSign : Nat → Int32) (v19_p_m_codes : Int32) (v19_p_m_within : Int32) (v19_p_m_piled : Int32) (v19_p_m_unitsInRule : Int32), (12 * (1602 - v19_p_m_at.toInt) + 6 * v19_p_m_piled.toInt - 600 * v19_p_m_faultKind.toInt + 3000 ≤ (N : Int)) → (0 ≤ v19_l1.toInt ∧ v19_l1.toInt ≤ 1) → (0 ≤ v19_p_m_end.toInt ∧ v19_p_m_end.toInt ≤ 1600) → ((0 ≤ v19_p_m_within.toInt ∧ v19_p_m_within.toInt ≤ 7 ∧ v19_p_m_within.toInt = cQZ v19_p_c_eWhat v19_p_m_piled.toInt)) → ((0 ≤ v19_p_m_unitsInRule.toInt ∧ v19_p_m_unitsInRule.toInt ≤ 30)) → (((c_ruleFrom m_rb.toNatClampNeg).toInt = 560 * m_rb.toInt ∧ 0 ≤ m_rb.toInt ∧ m_rb.toInt ≤ 1 ∧ (c_ruleFrom m_rb.toNatClampNeg).toInt ≤ v19_p_m_codes.toInt)) → ((dpZ v19_p_c_code (c_ruleFrom m_rb.toNatClampNeg) v19_p_m_codes.toInt ≤ v19_p_m_unitsInRule.toInt ∧ 0 ≤ cPZ v19_p_c_eWhat v19_p_m_piled.toInt)) → ((v19_p_m_piled.toInt ≤ 1 + v19_p_m_within.toInt + cPZ v19_p_c_eWhat v19_p_m_piled.toInt ∧ 0 ≤ v19_p_m_piled.toInt)) → ((v19_l1.toInt = 1 → (cPZ v19_p_c_eWhat v19_p_m_piled.toInt ≤ dpZ v19_p_c_code (c_ruleFrom m_rb.toNatClampNeg) v19_p_m_codes.toInt ∧ v19_p_m_codes.toInt - (c_ruleFrom m_rb.toNatClampNeg).toInt + dpZ v19_p_c_code (c_ruleFrom m_rb.toNatClampNeg) v19_p_m_codes.toInt ≤ 16 * v19_p_m_unitsInRule.toInt + v19_p_m_within.toInt))) → ((v19_l1.toInt = 0 → (cPZ v19_p_c_eWhat v19_p_m_piled.toInt + 1 ≤ dpZ v19_p_c_code (c_ruleFrom m_rb.toNatClampNeg) v19_p_m_codes.toInt ∧ v19_p_m_codes.toInt - (c_ruleFrom m_rb.toNatClampNeg).toInt + dpZ v19_p_c_code (c_ruleFrom m_rb.toNatClampNeg) v19_p_m_codes.toInt + v19_p_m_within.toInt ≤ 16 * v19_p_m_unitsInRule.toInt))) → (v19_p_m_piled.toInt ≤ 90) → ((0 ≤ v19_p_m_at.toInt ∧ v19_p_m_at.toInt ≤ 1600)) → ((0 ≤ v19_p_m_faultKind.toInt ∧ v19_p_m_faultKind.toInt ≤ 5)) → (SGp v19_p_c_eWhat v19_p_c_eSign v19_p_m_piled.toInt) → (okcZ v19_p_c_code (c_ruleFrom m_rb.toNatClampNeg) v19_p_m_codes.toInt) → (FrC c_code v19_p_c_code m_rb) → (((v19_p_m_token.toInt = 0 ∧ v19_p_m_at.toInt = m_size.toInt ∧ v19_p_m_end.toInt = m_size.toInt) ∨ (1 ≤ v19_p_m_token.toInt ∧ v19_p_m_at.toInt < v19_p_m_end.toInt ∧ v19_p_m_end.toInt ≤ m_size.toInt))) → (m_at.toInt ≤ v19_p_m_at.toInt) → (TYm ad cy fr0 c_text m_taped m_size v19_p_m_faultKind v19_p_m_faultPlace v19_p_m_at v19_p_m_end v19_p_m_token v19_p_m_number v19_p_m_name c_points c_strands v19_p_c_units c_told c_ruleFrom c_ruleTo v19_p_c_code v19_p_c_eWhat v19_p_c_eSign m_bank m_rb v19_p_m_codes v19_p_m_within v19_p_m_piled v19_p_m_unitsInRule m_askStrand m_askTied m_thoughtClaim m_thoughtNeed m_thoughtAll c_roundOf m_acts m_undone m_laid m_firstMove m_seens m_time m_waysNow m_fitting f) → (va_P D vwCl (wl ad f) H) → (va_D A (wl ad f)) → (va_S A s.heap H locs) → (lv_has ls 2 [(1, .int v19_l1), (0, .ref (ad 148))]) → W p l e (rmO 4 86 0 0) s m ([.ref (ad 148)] : List Value).toArray below meth c H locs 0 0 (MQ below (va_Qv (fun (g : Nat → va_E) => True ∧ (∃ (m_faultKind' : Int32) (m_faultPlace' : Int32) (m_at' : Int32) (m_end' : Int32) (m_token' : Int32) (m_number' : Int32) (m_name' : Int64) (c_units' : Nat → Int32) (c_code' : Nat → Int32) (c_eWhat' : Nat → Int32) (c_eSign' : Nat → Int32) (m_codes' : Int32) (m_within' : Int32) (m_piled' : Int32) (m_unitsInRule' : Int32), TYm ad cy fr0 c_text m_taped m_size m_faultKind' m_faultPlace' m_at' m_end' m_token' m_number' m_name' c_points c_strands c_units' c_told c_ruleFrom c_ruleTo c_code' c_eWhat' c_eSign' m_bank m_rb m_codes' m_within' m_piled' m_unitsInRule' m_askStrand m_askTied m_thoughtClaim m_thoughtNeed m_thoughtAll c_roundOf m_acts m_undone m_laid m_firstMove m_seens m_time m_waysNow m_fitting g ∧ (0 ≤ m_end'.toInt ∧ m_end'.toInt ≤ 1600) ∧ ((m_token'.toInt = 0 ∧ m_at'.toInt = m_size.toInt ∧ m_end'.toInt = m_size.toInt) ∨ (1 ≤ m_token'.toInt ∧ m_at'.toInt < m_end'.toInt ∧ m_end'.toInt ≤ m_size.toInt)) ∧ m_at.toInt ≤ m_at'.toInt ∧ ((c_ruleFrom m_rb.toNatClampNeg).toInt ≤ m_codes'.toInt ∧ m_codes'.toInt ≤ 560 * m_rb.toInt + 560) ∧ okcZ c_code' (c_ruleFrom m_rb.toNatClampNeg) m_codes'.toInt ∧ FrC c_code c_code' m_rb)) (fun g t => PstT D ad g t) A) ([.ref (ad 148)] : List Value).toArray s 0 0 A) (F0 m 19 ls []) := by
    intro N
    induction N with
    | zero => intro f H locs ls v19_l1 v19_p_m_faultKind v19_p_m_faultPlace v19_p_m_at v19_p_m_end v19_p_m_token v19_p_m_number v19_p_m_name v19_p_c_units v19_p_c_code v19_p_c_eWhat v19_p_c_eSign v19_p_m_codes v19_p_m_within v19_p_m_piled v19_p_m_unitsInRule hN hv19_l1 hv19_p_m_end hJ19_0 hJ19_1 hJ19_2 hJ19_3 hJ19_4 hJ19_5 hJ19_6 hJ19_7 hJ19_8 hJ19_9 hSG hOK hFr hJ19_13 hJ19_14 hT hP hD hS hl; exact absurd hN (by omega)
    | succ N ih19 =>
      intro f H locs ls v19_l1 v19_p_m_faultKind v19_p_m_faultPlace v19_p_m_at v19_p_m_end v19_p_m_token v19_p_m_number v19_p_m_name v19_p_c_units v19_p_c_code v19_p_c_eWhat v19_p_c_eSign v19_p_m_codes v19_p_m_within v19_p_m_piled v19_p_m_unitsInRule hN hv19_l1 hv19_p_m_end hJ19_0 hJ19_1 hJ19_2 hJ19_3 hJ19_4 hJ19_5 hJ19_6 hJ19_7 hJ19_8 hJ19_9 hSG hOK hFr hJ19_13 hJ19_14 hT hP hD hS hl
      refine lv_aload_n hx hb dX9_e_19 rfl (lv_at hl 1 rfl) ?_
      obtain ⟨e16, h1, h2, h3, h4, h5, h6, h7, h8, h9, h10, h11, h12, h13, h14, h15⟩ := (show okX9 ad m_taped m_size v19_p_m_faultKind v19_p_m_faultPlace v19_p_m_at v19_p_m_end v19_p_m_token v19_p_m_number v19_p_m_name m_bank m_rb v19_p_m_codes v19_p_m_within v19_p_m_piled v19_p_m_unitsInRule m_askStrand m_askTied m_thoughtClaim m_thoughtNeed m_thoughtAll m_acts m_undone m_laid m_firstMove m_seens m_time m_waysNow m_fitting 148 (f 148) from hT.1 148 (by decide))
      refine tVI (As := []) (rest := []) (i := 148) ⟨hx, hb, hml, hown, hts⟩ hK hE hP hD hS hA hAB (s_X9_isGood_0 l B0 adK adV D cy ad fr0 c_text m_taped m_size v19_p_m_faultKind v19_p_m_faultPlace v19_p_m_at v19_p_m_end v19_p_m_token v19_p_m_number v19_p_m_name c_points c_strands v19_p_c_units c_told c_ruleFrom c_ruleTo v19_p_c_code v19_p_c_eWhat v19_p_c_eSign m_bank m_rb v19_p_m_codes v19_p_m_within v19_p_m_piled v19_p_m_unitsInRule m_askStrand m_askTied m_thoughtClaim m_thoughtNeed m_thoughtAll c_roundOf m_acts m_undone m_laid m_firstMove m_seens m_time m_waysNow m_fitting f hT _) (cwV 0 hts gX9_e_X9_isGood rfl rfl rfl (by decide +kernel) ⟨Nat.le_of_ble_eq_true rfl, Nat.le_of_ble_eq_true rfl⟩) (by decide) 9 e16 rfl rfl hl.1 rfl (Nat.le_of_ble_eq_true rfl) dX9_e_20 ⟨Nat.le_of_ble_eq_true rfl, Nat.le_of_ble_eq_true rfl⟩ (fun r g H locs hw hP hD hS => ?_)
      obtain ⟨hrs, rfl⟩ := hw
      obtain ⟨x17, rfl⟩ : ∃ q, q = r := ⟨_, rfl⟩
      rcases hrs with ⟨rfl, h18⟩ | ⟨rfl, h19⟩
      · refine lv_if_eq (tgt := 52) hx hb dX9_e_23 (by decide) (fun c => absurd c (by decide)) (fun _ => ?_)
        refine lv_aload_n hx hb dX9_e_26 rfl (lv_at hl 1 rfl) ?_
        refine va_get (D := D) (cl := vwCl) (ci := 9) (v := .int v19_p_m_piled) (C := RX9) (T := TX9) (N := 64) hx hb hts in_X9_e_X9 hown hK hP 148 (wl_at (by decide) e16) rfl 33 (by decide) (hts (.fieldLink RX9 285 "EightReasonsModel" "piled" "I") (List.mem_of_getElem? (i := 1) rfl)) (fun _ h9 => h9) rfl dX9_e_27 ?_
        have ttl_0 := tl_0
        refine lv_if_le (tgt := 52) hx hb dX9_e_30 (by decide) (fun c20 => ?_) (fun c20 => ?_)
        · have kc20 := c_le c20
          exact tV hx hb hr hlk hP hS ⟨trivial, ⟨v19_p_m_faultKind, v19_p_m_faultPlace, v19_p_m_at, v19_p_m_end, v19_p_m_token, v19_p_m_number, v19_p_m_name, v19_p_c_units, v19_p_c_code, v19_p_c_eWhat, v19_p_c_eSign, v19_p_m_codes, v19_p_m_within, v19_p_m_piled, v19_p_m_unitsInRule, hT, by omega, by omega, by omega, by omega, hOK, hFr⟩⟩ dX9_e_52
        · have kc20 := c_nle c20
          refine lv_iload_n hx hb dX9_e_33 rfl (lv_at hl 0 rfl) ?_
          refine lv_if_eq (tgt := 44) hx hb dX9_e_34 (by decide) (fun c21 => ?_) (fun c21 => ?_)
          · have kc21 := c_eq c21
            refine lv_aload_n hx hb dX9_e_44 rfl (lv_at hl 1 rfl) ?_
            refine tVI (As := []) (rest := []) (i := 148) ⟨hx, hb, hml, hown, hts⟩ hK hE hP hD hS hA hAB (s_X9_behindUnit_0 l B0 adK adV D cy ad fr0 c_text m_taped m_size v19_p_m_faultKind v19_p_m_faultPlace v19_p_m_at v19_p_m_end v19_p_m_token v19_p_m_number v19_p_m_name c_points c_strands v19_p_c_units c_told c_ruleFrom c_ruleTo v19_p_c_code v19_p_c_eWhat v19_p_c_eSign m_bank m_rb v19_p_m_codes v19_p_m_within v19_p_m_piled v19_p_m_unitsInRule m_askStrand m_askTied m_thoughtClaim m_thoughtNeed m_thoughtAll c_roundOf m_acts m_undone m_laid m_firstMove m_seens m_time m_waysNow m_fitting f hT (by omega) (by omega) (by omega) (by omega) (by omega) (by omega) (by omega) (by omega) (by omega) hSG hOK _) (cwV 0 hts gX9_e_X9_behindUnit rfl rfl rfl (by decide +kernel) ⟨Nat.le_of_ble_eq_true rfl, Nat.le_of_ble_eq_true rfl⟩) (by decide) 9 e16 rfl rfl hl.1 rfl (Nat.le_of_ble_eq_true rfl) dX9_e_45 ⟨Nat.le_of_ble_eq_true rfl, Nat.le_of_ble_eq_true rfl⟩ (fun r f H locs hw hP hD hS => ?_)
            obtain ⟨hrs, x22, x23, x24, x25, x26, x27, y28, y29, y30, y31, x32, x33, x34, hT, h35, h36, h37, h38, h39, h40, h41, h42, h43, h44, h45, hSG, hOK, hFr2⟩ := hw
            obtain ⟨x46, rfl⟩ : ∃ q, q = r := ⟨_, rfl⟩
            rcases hrs with rfl | rfl
            · have hFr : FrC c_code y29 m_rb := by first | exact hFr | exact FrC_tr hFr hFr2
              refine lv_istore_n (lv' := [(1, .int 1), (0, .ref (ad 148))]) hx hb dX9_e_48 rfl hl (by decide) rfl (fun ls hl => ?_)
              refine lv_goto (tgt := 19) hx hb dX9_e_49 (by decide) ?_
              obtain ⟨e62, h47, h48, h49, h50, h51, h52, h53, h54, h55, h56, h57, h58, h59, h60, h61⟩ := (show okX9 ad m_taped m_size x22 x23 x24 x25 x26 x27 y28 m_bank m_rb x32 x33 x34 v19_p_m_unitsInRule m_askStrand m_askTied m_thoughtClaim m_thoughtNeed m_thoughtAll m_acts m_undone m_laid m_firstMove m_seens m_time m_waysNow m_fitting 148 (f 148) from hT.1 148 (by decide))
              have ttl_1 := tl_1
              exact ih19 f H locs ls (1 : Int32) x22 x23 x24 x25 x26 x27 y28 v19_p_c_units y29 y30 y31 x32 x33 x34 v19_p_m_unitsInRule (by omega) (by omega) (by omega) (by omega) (by omega) (by omega) (by omega) (by omega) (by omega) (by omega) (by omega) (by omega) (by omega) (hSG) (hOK) (hFr) (by omega) (by omega) hT hP hD hS (lv_sub hl [0, 1] rfl)
            · have hFr : FrC c_code y29 m_rb := by first | exact hFr | exact FrC_tr hFr hFr2
              refine lv_istore_n (lv' := [(1, .int 0), (0, .ref (ad 148))]) hx hb dX9_e_48 rfl hl (by decide) rfl (fun ls hl => ?_)
              refine lv_goto (tgt := 19) hx hb dX9_e_49 (by decide) ?_
              obtain ⟨e78, h63, h64, h65, h66, h67, h68, h69, h70, h71, h72, h73, h74, h75, h76, h77⟩ := (show okX9 ad m_taped m_size x22 x23 x24 x25 x26 x27 y28 m_bank m_rb x32 x33 x34 v19_p_m_unitsInRule m_askStrand m_askTied m_thoughtClaim m_thoughtNeed m_thoughtAll m_acts m_undone m_laid m_firstMove m_seens m_time m_waysNow m_fitting 148 (f 148) from hT.1 148 (by decide))
              exact ih19 f H locs ls (0 : Int32) x22 x23 x24 x25 x26 x27 y28 v19_p_c_units y29 y30 y31 x32 x33 x34 v19_p_m_unitsInRule (by omega) (by omega) (by omega) (by omega) (by omega) (by omega) (by omega) (by omega) (by omega) (by omega) (by omega) (by omega) (by omega) (hSG) (hOK) (hFr) (by omega) (by omega) hT hP hD hS (lv_sub hl [0, 1] rfl)
          · have kc21 := c_ne c21
            refine lv_aload_n hx hb dX9_e_37 rfl (lv_at hl 1 rfl) ?_
            refine tVI (As := []) (rest := []) (i := 148) ⟨hx, hb, hml, hown, hts⟩ hK hE hP hD hS hA hAB (s_X9_unit_0 l B0 adK adV D cy ad fr0 c_text m_taped m_size v19_p_m_faultKind v19_p_m_faultPlace v19_p_m_at v19_p_m_end v19_p_m_token v19_p_m_number v19_p_m_name c_points c_strands v19_p_c_units c_told c_ruleFrom c_ruleTo v19_p_c_code v19_p_c_eWhat v19_p_c_eSign m_bank m_rb v19_p_m_codes v19_p_m_within v19_p_m_piled v19_p_m_unitsInRule m_askStrand m_askTied m_thoughtClaim m_thoughtNeed m_thoughtAll c_roundOf m_acts m_undone m_laid m_firstMove m_seens m_time m_waysNow m_fitting f hT (by omega) (by omega) (by omega) (by omega) (by omega) (by omega) (by omega) (by omega) (by omega) hSG hOK _) (cwV 0 hts gX9_e_X9_unit rfl rfl rfl (by decide +kernel) ⟨Nat.le_of_ble_eq_true rfl, Nat.le_of_ble_eq_true rfl⟩) (by decide) 9 e16 rfl rfl hl.1 rfl (Nat.le_of_ble_eq_true rfl) dX9_e_38 ⟨Nat.le_of_ble_eq_true rfl, Nat.le_of_ble_eq_true rfl⟩ (fun r f H locs hw hP hD hS => ?_)
            obtain ⟨hrs, x79, x80, x81, x82, x83, x84, y85, y86, y87, y88, y89, x90, x91, x92, x93, hT, h94, h95, h96, h97, h98, h99, h100, h101, h102, h103, h104, h105, h106, hSG, hOK, hFr2⟩ := hw
            obtain ⟨x107, rfl⟩ : ∃ q, q = r := ⟨_, rfl⟩
            rcases hrs with rfl | rfl
            · refine lv_goto (tgt := 48) hx hb dX9_e_41 (by decide) ?_
              have hFr : FrC c_code y87 m_rb := by first | exact hFr | exact FrC_tr hFr hFr2
              refine lv_istore_n (lv' := [(1, .int 1), (0, .ref (ad 148))]) hx hb dX9_e_48 rfl hl (by decide) rfl (fun ls hl => ?_)
              refine lv_goto (tgt := 19) hx hb dX9_e_49 (by decide) ?_
              obtain ⟨e123, h108, h109, h110, h111, h112, h113, h114, h115, h116, h117, h118, h119, h120, h121, h122⟩ := (show okX9 ad m_taped m_size x79 x80 x81 x82 x83 x84 y85 m_bank m_rb x90 x91 x92 x93 m_askStrand m_askTied m_thoughtClaim m_thoughtNeed m_thoughtAll m_acts m_undone m_laid m_firstMove m_seens m_time m_waysNow m_fitting 148 (f 148) from hT.1 148 (by decide))
              have ttl_1 := tl_1
              exact ih19 f H locs ls (1 : Int32) x79 x80 x81 x82 x83 x84 y85 y86 y87 y88 y89 x90 x91 x92 x93 (by omega) (by omega) (by omega) (by omega) (by omega) (by omega) (by omega) (by omega) (by omega) (by omega) (by omega) (by omega) (by omega) (hSG) (hOK) (hFr) (by omega) (by omega) hT hP hD hS (lv_sub hl [0, 1] rfl)
            · refine lv_goto (tgt := 48) hx hb dX9_e_41 (by decide) ?_
              have hFr : FrC c_code y87 m_rb := by first | exact hFr | exact FrC_tr hFr hFr2
              refine lv_istore_n (lv' := [(1, .int 0), (0, .ref (ad 148))]) hx hb dX9_e_48 rfl hl (by decide) rfl (fun ls hl => ?_)
              refine lv_goto (tgt := 19) hx hb dX9_e_49 (by decide) ?_
              obtain ⟨e139, h124, h125, h126, h127, h128, h129, h130, h131, h132, h133, h134, h135, h136, h137, h138⟩ := (show okX9 ad m_taped m_size x79 x80 x81 x82 x83 x84 y85 m_bank m_rb x90 x91 x92 x93 m_askStrand m_askTied m_thoughtClaim m_thoughtNeed m_thoughtAll m_acts m_undone m_laid m_firstMove m_seens m_time m_waysNow m_fitting 148 (f 148) from hT.1 148 (by decide))
              exact ih19 f H locs ls (0 : Int32) x79 x80 x81 x82 x83 x84 y85 y86 y87 y88 y89 x90 x91 x92 x93 (by omega) (by omega) (by omega) (by omega) (by omega) (by omega) (by omega) (by omega) (by omega) (by omega) (by omega) (by omega) (by omega) (hSG) (hOK) (hFr) (by omega) (by omega) hT hP hD hS (lv_sub hl [0, 1] rfl)
      · refine lv_if_eq (tgt := 52) hx hb dX9_e_23 (by decide) (fun _ => ?_) (fun c => absurd (by decide) c)
        exact tV hx hb hr hlk hP hS ⟨trivial, ⟨v19_p_m_faultKind, v19_p_m_faultPlace, v19_p_m_at, v19_p_m_end, v19_p_m_token, v19_p_m_number, v19_p_m_name, v19_p_c_units, v19_p_c_code, v19_p_c_eWhat, v19_p_c_eSign, v19_p_m_codes, v19_p_m_within, v19_p_m_piled, v19_p_m_unitsInRule, hT, by omega, by omega, by omega, by omega, hOK, hFr⟩⟩ dX9_e_52
  refine lv_aload_n hx hb dX9_e_0 rfl (lv_at hl 0 rfl) ?_
  refine lv_iconst (v := 0) hx hb dX9_e_1 (by decide) ?_
  obtain ⟨e155, h140, h141, h142, h143, h144, h145, h146, h147, h148, h149, h150, h151, h152, h153, h154⟩ := (show okX9 ad m_taped m_size m_faultKind m_faultPlace m_at m_end m_token m_number m_name m_bank m_rb m_codes m_within m_piled m_unitsInRule m_askStrand m_askTied m_thoughtClaim m_thoughtNeed m_thoughtAll m_acts m_undone m_laid m_firstMove m_seens m_time m_waysNow m_fitting 148 (f 148) from hT.1 148 (by decide))
  refine va_put (D := D) (cl := vwCl) (ci := 9) (v := .int 0) (ty := tyX9 33) (C := RX9) (T := TX9) (N := 64) hx hb hts in_X9_e_X9 tyX9 tyX9_ok nmX9 hown hK hP hD hS 148 (wl_at (by decide) e155) rfl 33 (by decide) (hts (.fieldLink RX9 285 "EightReasonsModel" "piled" "I") (List.mem_of_getElem? (i := 1) rfl)) (fun _ h9 => h9) rfl (tyX9_ok 33 (by decide)) rfl rfl (Nat.le_of_ble_eq_true rfl) dX9_e_2 (fun H locs hP hD hS => ?_)
  have ttl_0 := tl_0
  obtain ⟨f, hT, hP, hD, e156, hj157⟩ := stU (by decide) (TYm.p148 hT (show OKm ad cy c_text m_taped m_size m_faultKind m_faultPlace m_at m_end m_token m_number m_name c_points c_strands c_units c_told c_ruleFrom c_ruleTo c_code c_eWhat c_eSign m_bank m_rb m_codes m_within 0 m_unitsInRule m_askStrand m_askTied m_thoughtClaim m_thoughtNeed m_thoughtAll c_roundOf m_acts m_undone m_laid m_firstMove m_seens m_time m_waysNow m_fitting 148 _ from (show okX9 ad m_taped m_size m_faultKind m_faultPlace m_at m_end m_token m_number m_name m_bank m_rb m_codes m_within 0 m_unitsInRule m_askStrand m_askTied m_thoughtClaim m_thoughtNeed m_thoughtAll m_acts m_undone m_laid m_firstMove m_seens m_time m_waysNow m_fitting 148 _ from ⟨rfl, by omega, by omega, by omega, by omega, by omega, by omega, by omega, by omega, by omega, by omega, by omega, by omega, by omega, by omega, by omega⟩))) hP hD
  refine lv_aload_n hx hb dX9_e_5 rfl (lv_at hl 0 rfl) ?_
  refine lv_iconst (v := 0) hx hb dX9_e_6 (by decide) ?_
  refine va_put (D := D) (cl := vwCl) (ci := 9) (v := .int 0) (ty := tyX9 32) (C := RX9) (T := TX9) (N := 64) hx hb hts in_X9_e_X9 tyX9 tyX9_ok nmX9 hown hK hP hD hS 148 (wl_at (by decide) e156) rfl 32 (by decide) (hts (.fieldLink RX9 288 "EightReasonsModel" "within" "I") (List.mem_of_getElem? (i := 2) rfl)) (fun _ h9 => h9) rfl (tyX9_ok 32 (by decide)) rfl rfl (Nat.le_of_ble_eq_true rfl) dX9_e_7 (fun H locs hP hD hS => ?_)
  obtain ⟨f, hT, hP, hD, e158, hj159⟩ := stU (by decide) (TYm.p148 hT (show OKm ad cy c_text m_taped m_size m_faultKind m_faultPlace m_at m_end m_token m_number m_name c_points c_strands c_units c_told c_ruleFrom c_ruleTo c_code c_eWhat c_eSign m_bank m_rb m_codes 0 0 m_unitsInRule m_askStrand m_askTied m_thoughtClaim m_thoughtNeed m_thoughtAll c_roundOf m_acts m_undone m_laid m_firstMove m_seens m_time m_waysNow m_fitting 148 _ from (show okX9 ad m_taped m_size m_faultKind m_faultPlace m_at m_end m_token m_number m_name m_bank m_rb m_codes 0 0 m_unitsInRule m_askStrand m_askTied m_thoughtClaim m_thoughtNeed m_thoughtAll m_acts m_undone m_laid m_firstMove m_seens m_time m_waysNow m_fitting 148 _ from ⟨rfl, by omega, by omega, by omega, by omega, by omega, by omega, by omega, by omega, by omega, by omega, by omega, by omega, by omega, by omega, by omega⟩))) hP hD
  refine lv_aload_n hx hb dX9_e_10 rfl (lv_at hl 0 rfl) ?_
  refine lv_bipush (v := 8) hx hb dX9_e_11 (by decide) ?_
  refine lv_iconst (v := 0) hx hb dX9_e_13 (by decide) ?_
  have ttl_8 := tl_8
  refine tVV (As := [.int 8, .int 0]) (rest := []) (i := 148) ⟨hx, hb, hml, hown, hts⟩ hK hE hP hD hS hA hAB (s_X9_pushE_0 l B0 adK adV D cy ad fr0 c_text m_taped m_size m_faultKind m_faultPlace m_at m_end m_token m_number m_name c_points c_strands c_units c_told c_ruleFrom c_ruleTo c_code c_eWhat c_eSign m_bank m_rb m_codes (0 : Int32) (0 : Int32) m_unitsInRule m_askStrand m_askTied m_thoughtClaim m_thoughtNeed m_thoughtAll c_roundOf m_acts m_undone m_laid m_firstMove m_seens m_time m_waysNow m_fitting f hT (8 : Int32) (by omega) (0 : Int32) (by omega) (by omega) _) (cwV 2 hts gX9_e_X9_pushE rfl rfl rfl (by decide +kernel) ⟨Nat.le_of_ble_eq_true rfl, Nat.le_of_ble_eq_true rfl⟩) (by decide) 9 e158 rfl rfl hl.1 rfl (Nat.le_of_ble_eq_true rfl) dX9_e_14 ⟨Nat.le_of_ble_eq_true rfl, Nat.le_of_ble_eq_true rfl⟩ (fun f H locs hw hP hD hS => ?_)
  obtain ⟨hrs, y160, y161, x162, hT, h163, h164, hew, hes⟩ := hw
  have hcz := c_zl c_eWhat
  have hpu := push_8 (g := c_eWhat) (g' := y160) (p := 0) (z := x162.toInt) hew (by omega) (by omega) (by omega)
  have hSG := SG_push (g := c_eWhat) (s := c_eSign) (p := 0) (z := x162.toInt) (SG_nl _ _) hew hes (by omega) (by omega) (by omega) (by omega) (by omega) (by omega) (by omega)
  have hd0 := dpZ_0 (cd := c_code) (a := (c_ruleFrom m_rb.toNatClampNeg)) (z := m_codes.toInt) (by omega)
  have hOK := okcZ_0 (cd := c_code) (a := (c_ruleFrom m_rb.toNatClampNeg)) (z := m_codes.toInt) (by omega)
  have hFr := FrC_rf c_code m_rb
  refine lv_iconst (v := 1) hx hb dX9_e_17 (by decide) ?_
  refine lv_istore_n (lv' := [(1, .int 1), (0, .ref (ad 148))]) hx hb dX9_e_18 rfl hl (by decide) rfl (fun ls hl => ?_)
  obtain ⟨e180, h165, h166, h167, h168, h169, h170, h171, h172, h173, h174, h175, h176, h177, h178, h179⟩ := (show okX9 ad m_taped m_size m_faultKind m_faultPlace m_at m_end m_token m_number m_name m_bank m_rb m_codes 0 x162 m_unitsInRule m_askStrand m_askTied m_thoughtClaim m_thoughtNeed m_thoughtAll m_acts m_undone m_laid m_firstMove m_seens m_time m_waysNow m_fitting 148 (f 148) from hT.1 148 (by decide))
  have ttl_1 := tl_1
  exact j19 (Int.toNat (12 * (1602 - m_at.toInt) + 6 * x162.toInt - 600 * m_faultKind.toInt + 3000)) f H locs ls (1 : Int32) m_faultKind m_faultPlace m_at m_end m_token m_number m_name c_units c_code y160 y161 m_codes (0 : Int32) x162 m_unitsInRule (by omega) (by omega) (by omega) (by omega) (by omega) (by omega) (by omega) (by omega) (by omega) (by omega) (by omega) (by omega) (by omega) (hSG) (hOK) (hFr) (by omega) (by omega) hT hP hD hS (lv_sub hl [0, 1] rfl)
set_option maxHeartbeats 4000000 in
set_option maxRecDepth 100000 in
theorem s_X9_readRule_0 (l : Launch) (B0 : Nat) (adK adV : Nat → Nat) (D : va_G) (cy : Nat → ClassId) (ad : Nat → Nat) (fr0 : Nat → va_E) (c_text : Nat → Int32) (m_taped : Int32) (m_size : Int32) (m_faultKind : Int32) (m_faultPlace : Int32) (m_at : Int32) (m_end : Int32) (m_token : Int32) (m_number : Int32) (m_name : Int64) (c_points : Nat → Int32) (c_strands : Nat → Int32) (c_units : Nat → Int32) (c_told : Nat → Int32) (c_ruleFrom : Nat → Int32) (c_ruleTo : Nat → Int32) (c_code : Nat → Int32) (c_eWhat : Nat → Int32) (c_eSign : Nat → Int32) (m_bank : Int32) (m_rb : Int32) (m_codes : Int32) (m_within : Int32) (m_piled : Int32) (m_unitsInRule : Int32) (m_askStrand : Int32) (m_askTied : Int32) (m_thoughtClaim : Int32) (m_thoughtNeed : Int32) (m_thoughtAll : Int32) (c_roundOf : Nat → Int32) (m_acts : Int32) (m_undone : Int32) (m_laid : Int32) (m_firstMove : Int32) (m_seens : Int32) (m_time : Int32) (m_waysNow : Int32) (m_fitting : Int32) (f : Nat → va_E) (hT : TYm ad cy fr0 c_text m_taped m_size m_faultKind m_faultPlace m_at m_end m_token m_number m_name c_points c_strands c_units c_told c_ruleFrom c_ruleTo c_code c_eWhat c_eSign m_bank m_rb m_codes m_within m_piled m_unitsInRule m_askStrand m_askTied m_thoughtClaim m_thoughtNeed m_thoughtAll c_roundOf m_acts m_undone m_laid m_firstMove m_seens m_time m_waysNow m_fitting f) (hph_m_end : 0 ≤ m_end.toInt ∧ m_end.toInt ≤ 1600) (hh0 : ((m_token.toInt = 0 ∧ m_at.toInt = m_size.toInt ∧ m_end.toInt = m_size.toInt) ∨ (1 ≤ m_token.toInt ∧ m_at.toInt < m_end.toInt ∧ m_end.toInt ≤ m_size.toInt))) (hh1 : m_codes.toInt = 560 * m_rb.toInt) (hh2 : (0 ≤ m_rb.toInt ∧ m_rb.toInt ≤ 1)) (sz : Nat) : TtV l yX9_readRule wsX9_readRule 5 107 [.ref (ad 148)] B0 adK adV D cy ad f sz (fun (g : Nat → va_E) => True ∧ (∃ (m_faultKind' : Int32) (m_faultPlace' : Int32) (m_at' : Int32) (m_end' : Int32) (m_token' : Int32) (m_number' : Int32) (m_name' : Int64) (c_units' : Nat → Int32) (c_told' : Nat → Int32) (c_ruleFrom' : Nat → Int32) (c_ruleTo' : Nat → Int32) (c_code' : Nat → Int32) (c_eWhat' : Nat → Int32) (c_eSign' : Nat → Int32) (m_codes' : Int32) (m_within' : Int32) (m_piled' : Int32) (m_unitsInRule' : Int32), TYm ad cy fr0 c_text m_taped m_size m_faultKind' m_faultPlace' m_at' m_end' m_token' m_number' m_name' c_points c_strands c_units' c_told' c_ruleFrom' c_ruleTo' c_code' c_eWhat' c_eSign' m_bank m_rb m_codes' m_within' m_piled' m_unitsInRule' m_askStrand m_askTied m_thoughtClaim m_thoughtNeed m_thoughtAll c_roundOf m_acts m_undone m_laid m_firstMove m_seens m_time m_waysNow m_fitting g ∧ (0 ≤ m_end'.toInt ∧ m_end'.toInt ≤ 1600) ∧ ((m_token'.toInt = 0 ∧ m_at'.toInt = m_size.toInt ∧ m_end'.toInt = m_size.toInt) ∨ (1 ≤ m_token'.toInt ∧ m_at'.toInt < m_end'.toInt ∧ m_end'.toInt ≤ m_size.toInt)) ∧ m_at.toInt ≤ m_at'.toInt ∧ okR c_code' (c_ruleFrom' m_rb.toNatClampNeg) (c_ruleTo' m_rb.toNatClampNeg) m_rb.toInt ∧ FrC c_code c_code' m_rb ∧ Fr1 c_told c_told' m_rb ∧ Fr1 c_ruleFrom c_ruleFrom' m_rb ∧ Fr1 c_ruleTo c_ruleTo' m_rb ∧ (bitF (c_told' m_rb.toNatClampNeg) 0).toInt = 1)) := by
  refine TtV.of (cc := cX9_readRule) (maxL := 1) (own := RX9) (by decide) rfl (Nat.le_of_ble_eq_true rfl) rfl ?_
  intro p e s m below meth c A ls hx hb hr hml hts hown hlk hK hE hP hD hS hA hAB hl
  have hl : lv_has ls 1 [(0, .ref (ad 148))] := hl
  refine st0 (fun H locs hP hS => ?_) hP hS
  refine lv_aload_n hx hb dX9_readRule_0 rfl (lv_at hl 0 rfl) ?_
  obtain ⟨e16, h1, h2, h3, h4, h5, h6, h7, h8, h9, h10, h11, h12, h13, h14, h15⟩ := (show okX9 ad m_taped m_size m_faultKind m_faultPlace m_at m_end m_token m_number m_name m_bank m_rb m_codes m_within m_piled m_unitsInRule m_askStrand m_askTied m_thoughtClaim m_thoughtNeed m_thoughtAll m_acts m_undone m_laid m_firstMove m_seens m_time m_waysNow m_fitting 148 (f 148) from hT.1 148 (by decide))
  refine va_get (D := D) (cl := vwCl) (ci := 9) (v := .ref (ad 156)) (C := RX9) (T := TX9) (N := 64) hx hb hts in_X9_readRule_X9 hown hK hP 148 (wl_at (by decide) e16) rfl 16 (by decide) (hts (.fieldLink RX9 36 "EightReasonsModel" "told" "[I") (List.mem_of_getElem? (i := 1) rfl)) (fun _ h9 => h9) rfl dX9_readRule_1 ?_
  refine lv_aload_n hx hb dX9_readRule_4 rfl (lv_at hl 0 rfl) ?_
  refine va_get (D := D) (cl := vwCl) (ci := 9) (v := .int m_rb) (C := RX9) (T := TX9) (N := 64) hx hb hts in_X9_readRule_X9 hown hK hP 148 (wl_at (by decide) e16) rfl 30 (by decide) (hts (.fieldLink RX9 230 "EightReasonsModel" "rb" "I") (List.mem_of_getElem? (i := 2) rfl)) (fun _ h9 => h9) rfl dX9_readRule_5 ?_
  refine lv_dup2_11 hx hb dX9_readRule_8 rfl rfl ?_
  have e17 : f 156 = _ := (show okIp cy 2 c_told (f 156) from hT.1 156 (by decide))
  refine va_iald hx hb hK hP 156 0 (wl_at (by decide) e17) rfl (vp_in_iff.mpr ⟨by omega, by omega⟩) dX9_readRule_9 ?_
  refine lv_topi (fun x18 ex18 => ?_)
  have kx18 := congrArg Int32.toInt ex18
  refine lv_iconst (v := 1) hx hb dX9_readRule_10 (by decide) ?_
  refine lv_ior hx hb dX9_readRule_11 ?_
  refine lv_topi (fun x19 ex19 => ?_)
  refine va_iast hx hb hK hP hD hS 156 0 (wl_at (by decide) e17) rfl (vp_in_iff.mpr ⟨by omega, by omega⟩) dX9_readRule_12 (fun H locs hP hD hS => ?_)
  obtain ⟨c20, ec20⟩ : ∃ q, q = upd c_told (Int32.toNatClampNeg m_rb) x19 := ⟨_, rfl⟩
  rw [← ec20] at hP hD
  obtain ⟨f, hT, hP, hD, e21, hj22⟩ := stU (by decide) (TYm.p156 hT (show OKm ad cy c_text m_taped m_size m_faultKind m_faultPlace m_at m_end m_token m_number m_name c_points c_strands c_units c20 c_ruleFrom c_ruleTo c_code c_eWhat c_eSign m_bank m_rb m_codes m_within m_piled m_unitsInRule m_askStrand m_askTied m_thoughtClaim m_thoughtNeed m_thoughtAll c_roundOf m_acts m_undone m_laid m_firstMove m_seens m_time m_waysNow m_fitting 156 _ from (show okIp cy 2 c20 _ from rfl))) hP hD
  have e23 := (hj22 148 (by decide)).trans e16
  have hbo := once_one (g := c_told) (g' := c20) (b := m_rb) (by assumption) (by assumption)
  refine lv_aload_n hx hb dX9_readRule_13 rfl (lv_at hl 0 rfl) ?_
  refine lv_iconst (v := 0) hx hb dX9_readRule_14 (by decide) ?_
  refine va_put (D := D) (cl := vwCl) (ci := 9) (v := .int 0) (ty := tyX9 34) (C := RX9) (T := TX9) (N := 64) hx hb hts in_X9_readRule_X9 tyX9 tyX9_ok nmX9 hown hK hP hD hS 148 (wl_at (by decide) e23) rfl 34 (by decide) (hts (.fieldLink RX9 279 "EightReasonsModel" "unitsInRule" "I") (List.mem_of_getElem? (i := 3) rfl)) (fun _ h9 => h9) rfl (tyX9_ok 34 (by decide)) rfl rfl (Nat.le_of_ble_eq_true rfl) dX9_readRule_15 (fun H locs hP hD hS => ?_)
  obtain ⟨f, hT, hP, hD, e24, hj25⟩ := stU (by decide) (TYm.p148 hT (show OKm ad cy c_text m_taped m_size m_faultKind m_faultPlace m_at m_end m_token m_number m_name c_points c_strands c_units c20 c_ruleFrom c_ruleTo c_code c_eWhat c_eSign m_bank m_rb m_codes m_within m_piled 0 m_askStrand m_askTied m_thoughtClaim m_thoughtNeed m_thoughtAll c_roundOf m_acts m_undone m_laid m_firstMove m_seens m_time m_waysNow m_fitting 148 _ from (show okX9 ad m_taped m_size m_faultKind m_faultPlace m_at m_end m_token m_number m_name m_bank m_rb m_codes m_within m_piled 0 m_askStrand m_askTied m_thoughtClaim m_thoughtNeed m_thoughtAll m_acts m_undone m_laid m_firstMove m_seens m_time m_waysNow m_fitting 148 _ from ⟨rfl, by omega, by omega, by omega, by omega, by omega, by omega, by omega, by omega, by omega, by omega, by omega, by omega, by omega, by omega, by omega⟩))) hP hD
  refine lv_aload_n hx hb dX9_readRule_18 rfl (lv_at hl 0 rfl) ?_
  refine va_get (D := D) (cl := vwCl) (ci := 9) (v := .ref (ad 161)) (C := RX9) (T := TX9) (N := 64) hx hb hts in_X9_readRule_X9 hown hK hP 148 (wl_at (by decide) e24) rfl 21 (by decide) (hts (.fieldLink RX9 51 "EightReasonsModel" "ruleFrom" "[I") (List.mem_of_getElem? (i := 4) rfl)) (fun _ h9 => h9) rfl dX9_readRule_19 ?_
  refine lv_aload_n hx hb dX9_readRule_22 rfl (lv_at hl 0 rfl) ?_
  refine va_get (D := D) (cl := vwCl) (ci := 9) (v := .int m_rb) (C := RX9) (T := TX9) (N := 64) hx hb hts in_X9_readRule_X9 hown hK hP 148 (wl_at (by decide) e24) rfl 30 (by decide) (hts (.fieldLink RX9 230 "EightReasonsModel" "rb" "I") (List.mem_of_getElem? (i := 2) rfl)) (fun _ h9 => h9) rfl dX9_readRule_23 ?_
  refine lv_aload_n hx hb dX9_readRule_26 rfl (lv_at hl 0 rfl) ?_
  refine va_get (D := D) (cl := vwCl) (ci := 9) (v := .int m_codes) (C := RX9) (T := TX9) (N := 64) hx hb hts in_X9_readRule_X9 hown hK hP 148 (wl_at (by decide) e24) rfl 31 (by decide) (hts (.fieldLink RX9 233 "EightReasonsModel" "codes" "I") (List.mem_of_getElem? (i := 5) rfl)) (fun _ h9 => h9) rfl dX9_readRule_27 ?_
  have e26 : f 161 = _ := (show okIp cy 2 c_ruleFrom (f 161) from hT.1 161 (by decide))
  refine va_iast hx hb hK hP hD hS 161 0 (wl_at (by decide) e26) rfl (vp_in_iff.mpr ⟨by omega, by omega⟩) dX9_readRule_30 (fun H locs hP hD hS => ?_)
  obtain ⟨c27, ec27⟩ : ∃ q, q = upd c_ruleFrom (Int32.toNatClampNeg m_rb) m_codes := ⟨_, rfl⟩
  rw [← ec27] at hP hD
  obtain ⟨f, hT, hP, hD, e28, hj29⟩ := stU (by decide) (TYm.p161 hT (show OKm ad cy c_text m_taped m_size m_faultKind m_faultPlace m_at m_end m_token m_number m_name c_points c_strands c_units c20 c27 c_ruleTo c_code c_eWhat c_eSign m_bank m_rb m_codes m_within m_piled 0 m_askStrand m_askTied m_thoughtClaim m_thoughtNeed m_thoughtAll c_roundOf m_acts m_undone m_laid m_firstMove m_seens m_time m_waysNow m_fitting 161 _ from (show okIp cy 2 c27 _ from rfl))) hP hD
  have e30 := (hj29 148 (by decide)).trans e24
  have hAq : (c27 m_rb.toNatClampNeg).toInt = m_codes.toInt := by rw [ec27, pk_us]
  refine lv_aload_n hx hb dX9_readRule_31 rfl (lv_at hl 0 rfl) ?_
  have ttl_0 := tl_0
  refine tVV (As := []) (rest := []) (i := 148) ⟨hx, hb, hml, hown, hts⟩ hK hE hP hD hS hA hAB (s_X9_e_0 l B0 adK adV D cy ad fr0 c_text m_taped m_size m_faultKind m_faultPlace m_at m_end m_token m_number m_name c_points c_strands c_units c20 c27 c_ruleTo c_code c_eWhat c_eSign m_bank m_rb m_codes m_within m_piled (0 : Int32) m_askStrand m_askTied m_thoughtClaim m_thoughtNeed m_thoughtAll c_roundOf m_acts m_undone m_laid m_firstMove m_seens m_time m_waysNow m_fitting f hT (by omega) (by omega) (by omega) (by omega) (by omega) (by omega) _) (cwV 0 hts gX9_readRule_X9_e rfl rfl rfl (by decide +kernel) ⟨Nat.le_of_ble_eq_true rfl, Nat.le_of_ble_eq_true rfl⟩) (by decide) 9 e30 rfl rfl hl.1 rfl (Nat.le_of_ble_eq_true rfl) dX9_readRule_32 ⟨Nat.le_of_ble_eq_true rfl, Nat.le_of_ble_eq_true rfl⟩ (fun f H locs hw hP hD hS => ?_)
  obtain ⟨hrs, x31, x32, x33, x34, x35, x36, y37, y38, y39, y40, y41, x42, x43, x44, x45, hT, h46, h47, h48, h49, hOK, hFr2⟩ := hw
  refine lv_aload_n hx hb dX9_readRule_35 rfl (lv_at hl 0 rfl) ?_
  obtain ⟨e65, h50, h51, h52, h53, h54, h55, h56, h57, h58, h59, h60, h61, h62, h63, h64⟩ := (show okX9 ad m_taped m_size x31 x32 x33 x34 x35 x36 y37 m_bank m_rb x42 x43 x44 x45 m_askStrand m_askTied m_thoughtClaim m_thoughtNeed m_thoughtAll m_acts m_undone m_laid m_firstMove m_seens m_time m_waysNow m_fitting 148 (f 148) from hT.1 148 (by decide))
  refine va_get (D := D) (cl := vwCl) (ci := 9) (v := .ref (ad 162)) (C := RX9) (T := TX9) (N := 64) hx hb hts in_X9_readRule_X9 hown hK hP 148 (wl_at (by decide) e65) rfl 22 (by decide) (hts (.fieldLink RX9 54 "EightReasonsModel" "ruleTo" "[I") (List.mem_of_getElem? (i := 6) rfl)) (fun _ h9 => h9) rfl dX9_readRule_36 ?_
  refine lv_aload_n hx hb dX9_readRule_39 rfl (lv_at hl 0 rfl) ?_
  refine va_get (D := D) (cl := vwCl) (ci := 9) (v := .int m_rb) (C := RX9) (T := TX9) (N := 64) hx hb hts in_X9_readRule_X9 hown hK hP 148 (wl_at (by decide) e65) rfl 30 (by decide) (hts (.fieldLink RX9 230 "EightReasonsModel" "rb" "I") (List.mem_of_getElem? (i := 2) rfl)) (fun _ h9 => h9) rfl dX9_readRule_40 ?_
  refine lv_aload_n hx hb dX9_readRule_43 rfl (lv_at hl 0 rfl) ?_
  refine va_get (D := D) (cl := vwCl) (ci := 9) (v := .int x42) (C := RX9) (T := TX9) (N := 64) hx hb hts in_X9_readRule_X9 hown hK hP 148 (wl_at (by decide) e65) rfl 31 (by decide) (hts (.fieldLink RX9 233 "EightReasonsModel" "codes" "I") (List.mem_of_getElem? (i := 5) rfl)) (fun _ h9 => h9) rfl dX9_readRule_44 ?_
  have e66 : f 162 = _ := (show okIp cy 2 c_ruleTo (f 162) from hT.1 162 (by decide))
  refine va_iast hx hb hK hP hD hS 162 0 (wl_at (by decide) e66) rfl (vp_in_iff.mpr ⟨by omega, by omega⟩) dX9_readRule_47 (fun H locs hP hD hS => ?_)
  obtain ⟨c67, ec67⟩ : ∃ q, q = upd c_ruleTo (Int32.toNatClampNeg m_rb) x42 := ⟨_, rfl⟩
  rw [← ec67] at hP hD
  obtain ⟨f, hT, hP, hD, e68, hj69⟩ := stU (by decide) (TYm.p162 hT (show OKm ad cy c_text m_taped m_size x31 x32 x33 x34 x35 x36 y37 c_points c_strands y38 c20 c27 c67 y39 y40 y41 m_bank m_rb x42 x43 x44 x45 m_askStrand m_askTied m_thoughtClaim m_thoughtNeed m_thoughtAll c_roundOf m_acts m_undone m_laid m_firstMove m_seens m_time m_waysNow m_fitting 162 _ from (show okIp cy 2 c67 _ from rfl))) hP hD
  have e70 := (hj69 148 (by decide)).trans e65
  have hRR : okR y39 (c27 m_rb.toNatClampNeg) (c67 m_rb.toNatClampNeg) m_rb.toInt := by
    have hB : (c67 m_rb.toNatClampNeg).toInt = x42.toInt := by rw [ec67, pk_us]
    exact ⟨by omega, by omega, by omega, by omega, by omega, by rw [hB]; exact hOK⟩
  have hF_told := Fr1_up (g := c_told) (g' := c20) (by assumption)
  have hF_ruleFrom := Fr1_up (g := c_ruleFrom) (g' := c27) (by assumption)
  have hF_ruleTo := Fr1_up (g := c_ruleTo) (g' := c67) (by assumption)
  exact tV hx hb hr hlk hP hS ⟨trivial, ⟨x31, x32, x33, x34, x35, x36, y37, y38, c20, c27, c67, y39, y40, y41, x42, x43, x44, x45, hT, by omega, by omega, by omega, hRR, hFr2, hF_told, hF_ruleFrom, hF_ruleTo, by omega⟩⟩ dX9_readRule_48
set_option maxHeartbeats 4000000 in
set_option maxRecDepth 100000 in
theorem s_X9_known_0 (l : Launch) (B0 : Nat) (adK adV : Nat → Nat) (D : va_G) (cy : Nat → ClassId) (ad : Nat → Nat) (fr0 : Nat → va_E) (c_text : Nat → Int32) (m_taped : Int32) (m_size : Int32) (m_faultKind : Int32) (m_faultPlace : Int32) (m_at : Int32) (m_end : Int32) (m_token : Int32) (m_number : Int32) (m_name : Int64) (c_points : Nat → Int32) (c_strands : Nat → Int32) (c_units : Nat → Int32) (c_told : Nat → Int32) (c_ruleFrom : Nat → Int32) (c_ruleTo : Nat → Int32) (c_code : Nat → Int32) (c_eWhat : Nat → Int32) (c_eSign : Nat → Int32) (m_bank : Int32) (m_rb : Int32) (m_codes : Int32) (m_within : Int32) (m_piled : Int32) (m_unitsInRule : Int32) (m_askStrand : Int32) (m_askTied : Int32) (m_thoughtClaim : Int32) (m_thoughtNeed : Int32) (m_thoughtAll : Int32) (c_roundOf : Nat → Int32) (m_acts : Int32) (m_undone : Int32) (m_laid : Int32) (m_firstMove : Int32) (m_seens : Int32) (m_time : Int32) (m_waysNow : Int32) (m_fitting : Int32) (f : Nat → va_E) (hT : TYm ad cy fr0 c_text m_taped m_size m_faultKind m_faultPlace m_at m_end m_token m_number m_name c_points c_strands c_units c_told c_ruleFrom c_ruleTo c_code c_eWhat c_eSign m_bank m_rb m_codes m_within m_piled m_unitsInRule m_askStrand m_askTied m_thoughtClaim m_thoughtNeed m_thoughtAll c_roundOf m_acts m_undone m_laid m_firstMove m_seens m_time m_waysNow m_fitting f) (p1 : Int32) (hp1 : -1 ≤ p1.toInt ∧ p1.toInt ≤ 9) (hph_m_end : 0 ≤ m_end.toInt ∧ m_end.toInt ≤ 1600) (hh0 : ((m_token.toInt = 0 ∧ m_at.toInt = m_size.toInt ∧ m_end.toInt = m_size.toInt) ∨ (1 ≤ m_token.toInt ∧ m_at.toInt < m_end.toInt ∧ m_end.toInt ≤ m_size.toInt))) (sz : Nat) : TtI l yX9_known wsX9_known 2 44 [.ref (ad 148), .int p1] B0 adK adV D cy ad f sz (fun (r : Int32) (g : Nat → va_E) => (0 ≤ r.toInt ∧ r.toInt ≤ 9) ∧ (∃ (m_faultKind' : Int32) (m_faultPlace' : Int32) (m_at' : Int32) (m_end' : Int32) (m_token' : Int32) (m_number' : Int32) (m_name' : Int64), TYm ad cy fr0 c_text m_taped m_size m_faultKind' m_faultPlace' m_at' m_end' m_token' m_number' m_name' c_points c_strands c_units c_told c_ruleFrom c_ruleTo c_code c_eWhat c_eSign m_bank m_rb m_codes m_within m_piled m_unitsInRule m_askStrand m_askTied m_thoughtClaim m_thoughtNeed m_thoughtAll c_roundOf m_acts m_undone m_laid m_firstMove m_seens m_time m_waysNow m_fitting g ∧ (0 ≤ m_end'.toInt ∧ m_end'.toInt ≤ 1600) ∧ ((m_token'.toInt = 0 ∧ m_at'.toInt = m_size.toInt ∧ m_end'.toInt = m_size.toInt) ∨ (1 ≤ m_token'.toInt ∧ m_at'.toInt < m_end'.toInt ∧ m_end'.toInt ≤ m_size.toInt)) ∧ m_at.toInt ≤ m_at'.toInt)) := by
  refine TtI.of (cc := cX9_known) (maxL := 2) (ty := .int) (own := RX9) (by decide) rfl (Nat.le_of_ble_eq_true rfl) rfl ?_
  intro p e s m below meth c A ls hx hb hr hml hts hown hlk hK hE hP hD hS hA hAB hl
  have hl : lv_has ls 2 [(0, .ref (ad 148)), (1, .int p1)] := hl
  refine st0 (fun H locs hP hS => ?_) hP hS
  have j44 : ∀ (f : Nat → va_E) (H : Heap) (locs : List Loc) (ls : Array Slot) (v44_p_m_faultKind : Int32) (v44_p_m_faultPlace : Int32) (v44_p_m_at : Int32) (v44_p_m_end : Int32) (v44_p_m_token : Int32) (v44_p_m_number : Int32) (v44_p_m_name : Int64), (-1 ≤ p1.toInt ∧ p1.toInt ≤ 9) → (0 ≤ v44_p_m_end.toInt ∧ v44_p_m_end.toInt ≤ 1600) → (((v44_p_m_token.toInt = 0 ∧ v44_p_m_at.toInt = m_size.toInt ∧ v44_p_m_end.toInt = m_size.toInt) ∨ (1 ≤ v44_p_m_token.toInt ∧ v44_p_m_at.toInt < v44_p_m_end.toInt ∧ v44_p_m_end.toInt ≤ m_size.toInt))) → (m_at.toInt ≤ v44_p_m_at.toInt) → (TYm ad cy fr0 c_text m_taped m_size v44_p_m_faultKind v44_p_m_faultPlace v44_p_m_at v44_p_m_end v44_p_m_token v44_p_m_number v44_p_m_name c_points c_strands c_units c_told c_ruleFrom c_ruleTo c_code c_eWhat c_eSign m_bank m_rb m_codes m_within m_piled m_unitsInRule m_askStrand m_askTied m_thoughtClaim m_thoughtNeed m_thoughtAll c_roundOf m_acts m_undone m_laid m_firstMove m_seens m_time m_waysNow m_fitting f) → (va_P D vwCl (wl ad f) H) → (va_D A (wl ad f)) → (va_S A s.heap H locs) → (lv_has ls 2 [(0, .ref (ad 148)), (1, .int p1)]) → W p l e (rmO 2 44 0 0) s m ([.ref (ad 148), .int p1] : List Value).toArray below meth c H locs 0 0 (MQ below (va_Qi (fun (r : Int32) (g : Nat → va_E) => (0 ≤ r.toInt ∧ r.toInt ≤ 9) ∧ (∃ (m_faultKind' : Int32) (m_faultPlace' : Int32) (m_at' : Int32) (m_end' : Int32) (m_token' : Int32) (m_number' : Int32) (m_name' : Int64), TYm ad cy fr0 c_text m_taped m_size m_faultKind' m_faultPlace' m_at' m_end' m_token' m_number' m_name' c_points c_strands c_units c_told c_ruleFrom c_ruleTo c_code c_eWhat c_eSign m_bank m_rb m_codes m_within m_piled m_unitsInRule m_askStrand m_askTied m_thoughtClaim m_thoughtNeed m_thoughtAll c_roundOf m_acts m_undone m_laid m_firstMove m_seens m_time m_waysNow m_fitting g ∧ (0 ≤ m_end'.toInt ∧ m_end'.toInt ≤ 1600) ∧ ((m_token'.toInt = 0 ∧ m_at'.toInt = m_size.toInt ∧ m_end'.toInt = m_size.toInt) ∨ (1 ≤ m_token'.toInt ∧ m_at'.toInt < m_end'.toInt ∧ m_end'.toInt ≤ m_size.toInt)) ∧ m_at.toInt ≤ m_at'.toInt)) (fun g t => PstT D ad g t) A) ([.ref (ad 148), .int p1] : List Value).toArray s 0 0 A) (F0 m 44 ls []) := by
    intro f H locs ls v44_p_m_faultKind v44_p_m_faultPlace v44_p_m_at v44_p_m_end v44_p_m_token v44_p_m_number v44_p_m_name hv44_l1 hv44_p_m_end hJ44_0 hJ44_1 hT hP hD hS hl
    refine lv_iload_n hx hb dX9_known_44 rfl (lv_at hl 1 rfl) ?_
    have ttl_0 := tl_0
    refine lv_if_ge (tgt := 52) hx hb dX9_known_45 (by decide) (fun c1 => ?_) (fun c1 => ?_)
    · have kc1 := c_le c1
      refine lv_iload_n hx hb dX9_known_52 rfl (lv_at hl 1 rfl) ?_
      exact tI hx hb hr hlk rfl hP hS ⟨(by omega), ⟨v44_p_m_faultKind, v44_p_m_faultPlace, v44_p_m_at, v44_p_m_end, v44_p_m_token, v44_p_m_number, v44_p_m_name, hT, by omega, by omega, by omega⟩⟩ dX9_known_53
    · have kc1 := c_nle c1
      refine lv_iconst (v := 0) hx hb dX9_known_48 (by decide) ?_
      refine lv_goto (tgt := 53) hx hb dX9_known_49 (by decide) ?_
      exact tI hx hb hr hlk rfl hP hS ⟨(by omega), ⟨v44_p_m_faultKind, v44_p_m_faultPlace, v44_p_m_at, v44_p_m_end, v44_p_m_token, v44_p_m_number, v44_p_m_name, hT, by omega, by omega, by omega⟩⟩ dX9_known_53
  refine lv_aload_n hx hb dX9_known_0 rfl (lv_at hl 0 rfl) ?_
  obtain ⟨e17, h2, h3, h4, h5, h6, h7, h8, h9, h10, h11, h12, h13, h14, h15, h16⟩ := (show okX9 ad m_taped m_size m_faultKind m_faultPlace m_at m_end m_token m_number m_name m_bank m_rb m_codes m_within m_piled m_unitsInRule m_askStrand m_askTied m_thoughtClaim m_thoughtNeed m_thoughtAll m_acts m_undone m_laid m_firstMove m_seens m_time m_waysNow m_fitting 148 (f 148) from hT.1 148 (by decide))
  refine tVI (As := []) (rest := []) (i := 148) ⟨hx, hb, hml, hown, hts⟩ hK hE hP hD hS hA hAB (s_X9_isGood_0 l B0 adK adV D cy ad fr0 c_text m_taped m_size m_faultKind m_faultPlace m_at m_end m_token m_number m_name c_points c_strands c_units c_told c_ruleFrom c_ruleTo c_code c_eWhat c_eSign m_bank m_rb m_codes m_within m_piled m_unitsInRule m_askStrand m_askTied m_thoughtClaim m_thoughtNeed m_thoughtAll c_roundOf m_acts m_undone m_laid m_firstMove m_seens m_time m_waysNow m_fitting f hT _) (cwV 0 hts gX9_known_X9_isGood rfl rfl rfl (by decide +kernel) ⟨Nat.le_of_ble_eq_true rfl, Nat.le_of_ble_eq_true rfl⟩) (by decide) 9 e17 rfl rfl hl.1 rfl (Nat.le_of_ble_eq_true rfl) dX9_known_1 ⟨Nat.le_of_ble_eq_true rfl, Nat.le_of_ble_eq_true rfl⟩ (fun r g H locs hw hP hD hS => ?_)
  obtain ⟨hrs, rfl⟩ := hw
  obtain ⟨x18, rfl⟩ : ∃ q, q = r := ⟨_, rfl⟩
  rcases hrs with ⟨rfl, h19⟩ | ⟨rfl, h20⟩
  · refine lv_if_ne (tgt := 9) hx hb dX9_known_4 (by decide) (fun _ => ?_) (fun c => absurd c (by decide))
    refine lv_aload_n hx hb dX9_known_9 rfl (lv_at hl 0 rfl) ?_
    refine va_get (D := D) (cl := vwCl) (ci := 9) (v := .int m_token) (C := RX9) (T := TX9) (N := 64) hx hb hts in_X9_known_X9 hown hK hP 148 (wl_at (by decide) e17) rfl 8 (by decide) (hts (.fieldLink RX9 181 "EightReasonsModel" "token" "I") (List.mem_of_getElem? (i := 1) rfl)) (fun _ h9 => h9) rfl dX9_known_10 ?_
    refine lv_iconst (v := 2) hx hb dX9_known_13 (by decide) ?_
    have ttl_2 := tl_2
    refine lv_icmp_eq (tgt := 24) hx hb dX9_known_14 (by decide) (fun c21 => ?_) (fun c21 => ?_)
    · have kc21 := c_eq c21
      refine lv_iload_n hx hb dX9_known_24 rfl (lv_at hl 1 rfl) ?_
      have ttl_0 := tl_0
      refine lv_if_ge (tgt := 40) hx hb dX9_known_25 (by decide) (fun c22 => ?_) (fun c22 => ?_)
      · have kc22 := c_le c22
        refine lv_aload_n hx hb dX9_known_40 rfl (lv_at hl 0 rfl) ?_
        refine tVV (As := []) (rest := []) (i := 148) ⟨hx, hb, hml, hown, hts⟩ hK hE hP hD hS hA hAB (s_X9_goOn_0 l B0 adK adV D cy ad fr0 c_text m_taped m_size m_faultKind m_faultPlace m_at m_end m_token m_number m_name c_points c_strands c_units c_told c_ruleFrom c_ruleTo c_code c_eWhat c_eSign m_bank m_rb m_codes m_within m_piled m_unitsInRule m_askStrand m_askTied m_thoughtClaim m_thoughtNeed m_thoughtAll c_roundOf m_acts m_undone m_laid m_firstMove m_seens m_time m_waysNow m_fitting f hT (by omega) (by omega) _) (cwV 0 hts gX9_known_X9_goOn rfl rfl rfl (by decide +kernel) ⟨Nat.le_of_ble_eq_true rfl, Nat.le_of_ble_eq_true rfl⟩) (by decide) 9 e17 rfl rfl hl.1 rfl (Nat.le_of_ble_eq_true rfl) dX9_known_41 ⟨Nat.le_of_ble_eq_true rfl, Nat.le_of_ble_eq_true rfl⟩ (fun f H locs hw hP hD hS => ?_)
        obtain ⟨hrs, x23, x24, x25, x26, y27, hT, h28, h29, h30⟩ := hw
        exact j44 f H locs ls m_faultKind m_faultPlace x23 x24 x25 x26 y27 (by omega) (by omega) (by omega) (by omega) hT hP hD hS (lv_sub hl [0, 1] rfl)
      · have kc22 := c_nle c22
        refine lv_aload_n hx hb dX9_known_28 rfl (lv_at hl 0 rfl) ?_
        refine lv_iconst (v := 5) hx hb dX9_known_29 (by decide) ?_
        refine lv_aload_n hx hb dX9_known_30 rfl (lv_at hl 0 rfl) ?_
        refine va_get (D := D) (cl := vwCl) (ci := 9) (v := .int m_at) (C := RX9) (T := TX9) (N := 64) hx hb hts in_X9_known_X9 hown hK hP 148 (wl_at (by decide) e17) rfl 6 (by decide) (hts (.fieldLink RX9 174 "EightReasonsModel" "at" "I") (List.mem_of_getElem? (i := 2) rfl)) (fun _ h9 => h9) rfl dX9_known_31 ?_
        have ttl_5 := tl_5
        refine tVV (As := [.int 5, .int m_at]) (rest := []) (i := 148) ⟨hx, hb, hml, hown, hts⟩ hK hE hP hD hS hA hAB (s_X9_fails_0 l B0 adK adV D cy ad fr0 c_text m_taped m_size m_faultKind m_faultPlace m_at m_end m_token m_number m_name c_points c_strands c_units c_told c_ruleFrom c_ruleTo c_code c_eWhat c_eSign m_bank m_rb m_codes m_within m_piled m_unitsInRule m_askStrand m_askTied m_thoughtClaim m_thoughtNeed m_thoughtAll c_roundOf m_acts m_undone m_laid m_firstMove m_seens m_time m_waysNow m_fitting f hT (5 : Int32) (by omega) m_at (by omega) _) (cwV 2 hts gX9_known_X9_fails rfl rfl rfl (by decide +kernel) ⟨Nat.le_of_ble_eq_true rfl, Nat.le_of_ble_eq_true rfl⟩) (by decide) 9 e17 rfl rfl hl.1 rfl (Nat.le_of_ble_eq_true rfl) dX9_known_34 ⟨Nat.le_of_ble_eq_true rfl, Nat.le_of_ble_eq_true rfl⟩ (fun f H locs hw hP hD hS => ?_)
        obtain ⟨hrs, x31, x32, hT, h33⟩ := hw
        refine lv_goto (tgt := 44) hx hb dX9_known_37 (by decide) ?_
        exact j44 f H locs ls x31 x32 m_at m_end m_token m_number m_name (by omega) (by omega) (by omega) (by omega) hT hP hD hS (lv_sub hl [0, 1] rfl)
    · have kc21 := c_ne c21
      refine lv_aload_n hx hb dX9_known_17 rfl (lv_at hl 0 rfl) ?_
      refine tVV (As := []) (rest := []) (i := 148) ⟨hx, hb, hml, hown, hts⟩ hK hE hP hD hS hA hAB (s_X9_misplaced_0 l B0 adK adV D cy ad fr0 c_text m_taped m_size m_faultKind m_faultPlace m_at m_end m_token m_number m_name c_points c_strands c_units c_told c_ruleFrom c_ruleTo c_code c_eWhat c_eSign m_bank m_rb m_codes m_within m_piled m_unitsInRule m_askStrand m_askTied m_thoughtClaim m_thoughtNeed m_thoughtAll c_roundOf m_acts m_undone m_laid m_firstMove m_seens m_time m_waysNow m_fitting f hT _) (cwV 0 hts gX9_known_X9_misplaced rfl rfl rfl (by decide +kernel) ⟨Nat.le_of_ble_eq_true rfl, Nat.le_of_ble_eq_true rfl⟩) (by decide) 9 e17 rfl rfl hl.1 rfl (Nat.le_of_ble_eq_true rfl) dX9_known_18 ⟨Nat.le_of_ble_eq_true rfl, Nat.le_of_ble_eq_true rfl⟩ (fun f H locs hw hP hD hS => ?_)
      obtain ⟨hrs, x34, x35, hT, h36⟩ := hw
      refine lv_goto (tgt := 44) hx hb dX9_known_21 (by decide) ?_
      exact j44 f H locs ls x34 x35 m_at m_end m_token m_number m_name (by omega) (by omega) (by omega) (by omega) hT hP hD hS (lv_sub hl [0, 1] rfl)
  · refine lv_if_ne (tgt := 9) hx hb dX9_known_4 (by decide) (fun c => absurd (by decide) c) (fun _ => ?_)
    refine lv_iconst (v := 0) hx hb dX9_known_7 (by decide) ?_
    have ttl_0 := tl_0
    exact tI hx hb hr hlk rfl hP hS ⟨(by omega), ⟨m_faultKind, m_faultPlace, m_at, m_end, m_token, m_number, m_name, hT, by omega, by omega, by omega⟩⟩ dX9_known_8
set_option maxHeartbeats 4000000 in
set_option maxRecDepth 100000 in
theorem s_X9_readStrand_0 (l : Launch) (B0 : Nat) (adK adV : Nat → Nat) (D : va_G) (cy : Nat → ClassId) (ad : Nat → Nat) (fr0 : Nat → va_E) (c_text : Nat → Int32) (m_taped : Int32) (m_size : Int32) (m_faultKind : Int32) (m_faultPlace : Int32) (m_at : Int32) (m_end : Int32) (m_token : Int32) (m_number : Int32) (m_name : Int64) (c_points : Nat → Int32) (c_strands : Nat → Int32) (c_units : Nat → Int32) (c_told : Nat → Int32) (c_ruleFrom : Nat → Int32) (c_ruleTo : Nat → Int32) (c_code : Nat → Int32) (c_eWhat : Nat → Int32) (c_eSign : Nat → Int32) (m_bank : Int32) (m_rb : Int32) (m_codes : Int32) (m_within : Int32) (m_piled : Int32) (m_unitsInRule : Int32) (m_askStrand : Int32) (m_askTied : Int32) (m_thoughtClaim : Int32) (m_thoughtNeed : Int32) (m_thoughtAll : Int32) (c_roundOf : Nat → Int32) (m_acts : Int32) (m_undone : Int32) (m_laid : Int32) (m_firstMove : Int32) (m_seens : Int32) (m_time : Int32) (m_waysNow : Int32) (m_fitting : Int32) (f : Nat → va_E) (hT : TYm ad cy fr0 c_text m_taped m_size m_faultKind m_faultPlace m_at m_end m_token m_number m_name c_points c_strands c_units c_told c_ruleFrom c_ruleTo c_code c_eWhat c_eSign m_bank m_rb m_codes m_within m_piled m_unitsInRule m_askStrand m_askTied m_thoughtClaim m_thoughtNeed m_thoughtAll c_roundOf m_acts m_undone m_laid m_firstMove m_seens m_time m_waysNow m_fitting f) (hph_m_end : 0 ≤ m_end.toInt ∧ m_end.toInt ≤ 1600) (hh0 : ((m_token.toInt = 0 ∧ m_at.toInt = m_size.toInt ∧ m_end.toInt = m_size.toInt) ∨ (1 ≤ m_token.toInt ∧ m_at.toInt < m_end.toInt ∧ m_end.toInt ≤ m_size.toInt))) (hh1 : (c_strands m_rb.toNatClampNeg).toInt ≤ 11) (sz : Nat) : TtV l yX9_readStrand wsX9_readStrand 4 91 [.ref (ad 148)] B0 adK adV D cy ad f sz (fun (g : Nat → va_E) => True ∧ (∃ (m_faultKind' : Int32) (m_faultPlace' : Int32) (m_at' : Int32) (m_end' : Int32) (m_token' : Int32) (m_number' : Int32) (m_name' : Int64) (c_strands' : Nat → Int32), TYm ad cy fr0 c_text m_taped m_size m_faultKind' m_faultPlace' m_at' m_end' m_token' m_number' m_name' c_points c_strands' c_units c_told c_ruleFrom c_ruleTo c_code c_eWhat c_eSign m_bank m_rb m_codes m_within m_piled m_unitsInRule m_askStrand m_askTied m_thoughtClaim m_thoughtNeed m_thoughtAll c_roundOf m_acts m_undone m_laid m_firstMove m_seens m_time m_waysNow m_fitting g ∧ (0 ≤ m_end'.toInt ∧ m_end'.toInt ≤ 1600) ∧ ((m_token'.toInt = 0 ∧ m_at'.toInt = m_size.toInt ∧ m_end'.toInt = m_size.toInt) ∨ (1 ≤ m_token'.toInt ∧ m_at'.toInt < m_end'.toInt ∧ m_end'.toInt ≤ m_size.toInt)) ∧ m_at.toInt ≤ m_at'.toInt)) := by
  refine TtV.of (cc := cX9_readStrand) (maxL := 5) (own := RX9) (by decide) rfl (Nat.le_of_ble_eq_true rfl) rfl ?_
  intro p e s m below meth c A ls hx hb hr hml hts hown hlk hK hE hP hD hS hA hAB hl
  have hl : lv_has ls 5 [(0, .ref (ad 148))] := hl
  refine st0 (fun H locs hP hS => ?_) hP hS
  have j153 : ∀ (f : Nat → va_E) (H : Heap) (locs : List Loc) (ls : Array Slot) (v153_l4 : Int32) (v153_l3 : Int32) (v153_l2 : Int32) (v153_l1 : Int32) (v153_p_m_faultKind : Int32) (v153_p_m_faultPlace : Int32) (v153_p_m_at : Int32) (v153_p_m_end : Int32) (v153_p_m_token : Int32) (v153_p_m_number : Int32) (v153_p_m_name : Int64), (0 ≤ v153_l4.toInt ∧ v153_l4.toInt ≤ 24) → (0 ≤ v153_l3.toInt ∧ v153_l3.toInt ≤ 1) → (-1 ≤ v153_l2.toInt ∧ v153_l2.toInt ≤ 9) → (0 ≤ v153_l1.toInt ∧ v153_l1.toInt ≤ 23) → (0 ≤ v153_p_m_end.toInt ∧ v153_p_m_end.toInt ≤ 1600) → (((v153_p_m_token.toInt = 0 ∧ v153_p_m_at.toInt = m_size.toInt ∧ v153_p_m_end.toInt = m_size.toInt) ∨ (1 ≤ v153_p_m_token.toInt ∧ v153_p_m_at.toInt < v153_p_m_end.toInt ∧ v153_p_m_end.toInt ≤ m_size.toInt))) → (m_at.toInt ≤ v153_p_m_at.toInt) → (TYm ad cy fr0 c_text m_taped m_size v153_p_m_faultKind v153_p_m_faultPlace v153_p_m_at v153_p_m_end v153_p_m_token v153_p_m_number v153_p_m_name c_points c_strands c_units c_told c_ruleFrom c_ruleTo c_code c_eWhat c_eSign m_bank m_rb m_codes m_within m_piled m_unitsInRule m_askStrand m_askTied m_thoughtClaim m_thoughtNeed m_thoughtAll c_roundOf m_acts m_undone m_laid m_firstMove m_seens m_time m_waysNow m_fitting f) → (va_P D vwCl (wl ad f) H) → (va_D A (wl ad f)) → (va_S A s.heap H locs) → (lv_has ls 5 [(4, .int v153_l4), (3, .int v153_l3), (2, .int v153_l2), (1, .int v153_l1), (0, .ref (ad 148))]) → W p l e (rmO 4 91 0 0) s m ([.ref (ad 148)] : List Value).toArray below meth c H locs 0 0 (MQ below (va_Qv (fun (g : Nat → va_E) => True ∧ (∃ (m_faultKind' : Int32) (m_faultPlace' : Int32) (m_at' : Int32) (m_end' : Int32) (m_token' : Int32) (m_number' : Int32) (m_name' : Int64) (c_strands' : Nat → Int32), TYm ad cy fr0 c_text m_taped m_size m_faultKind' m_faultPlace' m_at' m_end' m_token' m_number' m_name' c_points c_strands' c_units c_told c_ruleFrom c_ruleTo c_code c_eWhat c_eSign m_bank m_rb m_codes m_within m_piled m_unitsInRule m_askStrand m_askTied m_thoughtClaim m_thoughtNeed m_thoughtAll c_roundOf m_acts m_undone m_laid m_firstMove m_seens m_time m_waysNow m_fitting g ∧ (0 ≤ m_end'.toInt ∧ m_end'.toInt ≤ 1600) ∧ ((m_token'.toInt = 0 ∧ m_at'.toInt = m_size.toInt ∧ m_end'.toInt = m_size.toInt) ∨ (1 ≤ m_token'.toInt ∧ m_at'.toInt < m_end'.toInt ∧ m_end'.toInt ≤ m_size.toInt)) ∧ m_at.toInt ≤ m_at'.toInt)) (fun g t => PstT D ad g t) A) ([.ref (ad 148)] : List Value).toArray s 0 0 A) (F0 m 153 ls []) := by
    intro f H locs ls v153_l4 v153_l3 v153_l2 v153_l1 v153_p_m_faultKind v153_p_m_faultPlace v153_p_m_at v153_p_m_end v153_p_m_token v153_p_m_number v153_p_m_name hv153_l4 hv153_l3 hv153_l2 hv153_l1 hv153_p_m_end hJ153_0 hJ153_1 hT hP hD hS hl
    refine lv_aload_n hx hb dX9_readStrand_153 rfl (lv_at hl 4 rfl) ?_
    obtain ⟨e16, h1, h2, h3, h4, h5, h6, h7, h8, h9, h10, h11, h12, h13, h14, h15⟩ := (show okX9 ad m_taped m_size v153_p_m_faultKind v153_p_m_faultPlace v153_p_m_at v153_p_m_end v153_p_m_token v153_p_m_number v153_p_m_name m_bank m_rb m_codes m_within m_piled m_unitsInRule m_askStrand m_askTied m_thoughtClaim m_thoughtNeed m_thoughtAll m_acts m_undone m_laid m_firstMove m_seens m_time m_waysNow m_fitting 148 (f 148) from hT.1 148 (by decide))
    refine va_get (D := D) (cl := vwCl) (ci := 9) (v := .ref (ad 159)) (C := RX9) (T := TX9) (N := 64) hx hb hts in_X9_readStrand_X9 hown hK hP 148 (wl_at (by decide) e16) rfl 19 (by decide) (hts (.fieldLink RX9 45 "EightReasonsModel" "to" "[I") (List.mem_of_getElem? (i := 5) rfl)) (fun _ h9 => h9) rfl dX9_readStrand_154 ?_
    refine lv_iload_n hx hb dX9_readStrand_157 rfl (lv_at hl 3 rfl) ?_
    refine lv_aload_n hx hb dX9_readStrand_158 rfl (lv_at hl 4 rfl) ?_
    refine lv_iload_n hx hb dX9_readStrand_159 rfl (lv_at hl 2 rfl) ?_
    refine tVI (As := [.int v153_l2]) (rest := [.int v153_l1, .ref (ad 159)]) (i := 148) ⟨hx, hb, hml, hown, hts⟩ hK hE hP hD hS hA hAB (s_X9_known_0 l B0 adK adV D cy ad fr0 c_text m_taped m_size v153_p_m_faultKind v153_p_m_faultPlace v153_p_m_at v153_p_m_end v153_p_m_token v153_p_m_number v153_p_m_name c_points c_strands c_units c_told c_ruleFrom c_ruleTo c_code c_eWhat c_eSign m_bank m_rb m_codes m_within m_piled m_unitsInRule m_askStrand m_askTied m_thoughtClaim m_thoughtNeed m_thoughtAll c_roundOf m_acts m_undone m_laid m_firstMove m_seens m_time m_waysNow m_fitting f hT v153_l2 (by omega) (by omega) (by omega) _) (cwV 1 hts gX9_readStrand_X9_known rfl rfl rfl (by decide +kernel) ⟨Nat.le_of_ble_eq_true rfl, Nat.le_of_ble_eq_true rfl⟩) (by decide) 9 e16 rfl rfl hl.1 rfl (Nat.le_of_ble_eq_true rfl) dX9_readStrand_160 ⟨Nat.le_of_ble_eq_true rfl, Nat.le_of_ble_eq_true rfl⟩ (fun r f H locs hw hP hD hS => ?_)
    obtain ⟨hrs, x17, x18, x19, x20, x21, x22, y23, hT, h24, h25, h26⟩ := hw
    obtain ⟨x27, rfl⟩ : ∃ q, q = r := ⟨_, rfl⟩
    have h28 := hrs
    obtain ⟨g31, e29, h30⟩ := (show okIr cy 24 (0) (9) 1 0 (f 159) from hT.1 159 (by decide))
    refine va_iast hx hb hK hP hD hS 159 0 (wl_at (by decide) e29) rfl (vp_in_iff.mpr ⟨by omega, by omega⟩) dX9_readStrand_163 (fun H locs hP hD hS => ?_)
    obtain ⟨f, hT, hP, hD, e32, hj33⟩ := stU (by decide) (TYm.up hT (by decide) (show OKm ad cy c_text m_taped m_size x17 x18 x19 x20 x21 x22 y23 c_points c_strands c_units c_told c_ruleFrom c_ruleTo c_code c_eWhat c_eSign m_bank m_rb m_codes m_within m_piled m_unitsInRule m_askStrand m_askTied m_thoughtClaim m_thoughtNeed m_thoughtAll c_roundOf m_acts m_undone m_laid m_firstMove m_seens m_time m_waysNow m_fitting 159 _ from (show okIr cy 24 (0) (9) 1 0 _ from ⟨_, rfl, upd_r h30 (fun _ => by omega)⟩))) hP hD
    refine lv_aload_n hx hb dX9_readStrand_164 rfl (lv_at hl 4 rfl) ?_
    obtain ⟨e49, h34, h35, h36, h37, h38, h39, h40, h41, h42, h43, h44, h45, h46, h47, h48⟩ := (show okX9 ad m_taped m_size x17 x18 x19 x20 x21 x22 y23 m_bank m_rb m_codes m_within m_piled m_unitsInRule m_askStrand m_askTied m_thoughtClaim m_thoughtNeed m_thoughtAll m_acts m_undone m_laid m_firstMove m_seens m_time m_waysNow m_fitting 148 (f 148) from hT.1 148 (by decide))
    refine va_get (D := D) (cl := vwCl) (ci := 9) (v := .ref (ad 160)) (C := RX9) (T := TX9) (N := 64) hx hb hts in_X9_readStrand_X9 hown hK hP 148 (wl_at (by decide) e49) rfl 20 (by decide) (hts (.fieldLink RX9 48 "EightReasonsModel" "strongTold" "[I") (List.mem_of_getElem? (i := 7) rfl)) (fun _ h9 => h9) rfl dX9_readStrand_165 ?_
    refine lv_iload_n hx hb dX9_readStrand_168 rfl (lv_at hl 3 rfl) ?_
    refine lv_aload_n hx hb dX9_readStrand_169 rfl (lv_at hl 4 rfl) ?_
    have ttlj_126943973305959 := tlj_126943973305959
    refine lv_ldc2 (v := 126943973305959) hx hb hown (hts (.constantLong RX9 151 (126943973305959)) (List.mem_of_getElem? (i := 8) rfl)) dX9_readStrand_170 ?_
    refine lv_iconst (v := 1) hx hb dX9_readStrand_173 (by decide) ?_
    refine lv_bipush (v := 20) hx hb dX9_readStrand_174 (by decide) ?_
    have ttl_1 := tl_1
    have ttl_20 := tl_20
    refine tVI (As := [.long 126943973305959, .int 1, .int 20]) (rest := [.int v153_l1, .ref (ad 160)]) (i := 148) ⟨hx, hb, hml, hown, hts⟩ hK hE hP hD hS hA hAB (s_X9_after_0 l B0 adK adV D cy ad fr0 c_text m_taped m_size x17 x18 x19 x20 x21 x22 y23 c_points c_strands c_units c_told c_ruleFrom c_ruleTo c_code c_eWhat c_eSign m_bank m_rb m_codes m_within m_piled m_unitsInRule m_askStrand m_askTied m_thoughtClaim m_thoughtNeed m_thoughtAll c_roundOf m_acts m_undone m_laid m_firstMove m_seens m_time m_waysNow m_fitting f hT (126943973305959 : Int64) (1 : Int32) (by omega) (20 : Int32) (by omega) (by omega) (by omega) _) (cwV 3 hts gX9_readStrand_X9_after rfl rfl rfl (by decide +kernel) ⟨Nat.le_of_ble_eq_true rfl, Nat.le_of_ble_eq_true rfl⟩) (by decide) 9 e49 rfl rfl hl.1 rfl (Nat.le_of_ble_eq_true rfl) dX9_readStrand_176 ⟨Nat.le_of_ble_eq_true rfl, Nat.le_of_ble_eq_true rfl⟩ (fun r f H locs hw hP hD hS => ?_)
    obtain ⟨hrs, x50, x51, x52, x53, x54, x55, y56, hT, h57, h58, h59⟩ := hw
    obtain ⟨x60, rfl⟩ : ∃ q, q = r := ⟨_, rfl⟩
    have h61 := hrs
    obtain ⟨g63, e62⟩ := (show okI cy 24 (f 160) from hT.1 160 (by decide))
    refine va_iast hx hb hK hP hD hS 160 0 (wl_at (by decide) e62) rfl (vp_in_iff.mpr ⟨by omega, by omega⟩) dX9_readStrand_179 (fun H locs hP hD hS => ?_)
    obtain ⟨f, hT, hP, hD, e64, hj65⟩ := stU (by decide) (TYm.up hT (by decide) (show OKm ad cy c_text m_taped m_size x50 x51 x52 x53 x54 x55 y56 c_points c_strands c_units c_told c_ruleFrom c_ruleTo c_code c_eWhat c_eSign m_bank m_rb m_codes m_within m_piled m_unitsInRule m_askStrand m_askTied m_thoughtClaim m_thoughtNeed m_thoughtAll c_roundOf m_acts m_undone m_laid m_firstMove m_seens m_time m_waysNow m_fitting 160 _ from (show okI cy 24 _ from ⟨_, rfl⟩))) hP hD
    refine lv_aload_n hx hb dX9_readStrand_180 rfl (lv_at hl 4 rfl) ?_
    obtain ⟨e81, h66, h67, h68, h69, h70, h71, h72, h73, h74, h75, h76, h77, h78, h79, h80⟩ := (show okX9 ad m_taped m_size x50 x51 x52 x53 x54 x55 y56 m_bank m_rb m_codes m_within m_piled m_unitsInRule m_askStrand m_askTied m_thoughtClaim m_thoughtNeed m_thoughtAll m_acts m_undone m_laid m_firstMove m_seens m_time m_waysNow m_fitting 148 (f 148) from hT.1 148 (by decide))
    refine va_get (D := D) (cl := vwCl) (ci := 9) (v := .ref (ad 152)) (C := RX9) (T := TX9) (N := 64) hx hb hts in_X9_readStrand_X9 hown hK hP 148 (wl_at (by decide) e81) rfl 12 (by decide) (hts (.fieldLink RX9 24 "EightReasonsModel" "strands" "[I") (List.mem_of_getElem? (i := 2) rfl)) (fun _ h9 => h9) rfl dX9_readStrand_181 ?_
    refine lv_aload_n hx hb dX9_readStrand_184 rfl (lv_at hl 4 rfl) ?_
    refine va_get (D := D) (cl := vwCl) (ci := 9) (v := .int m_rb) (C := RX9) (T := TX9) (N := 64) hx hb hts in_X9_readStrand_X9 hown hK hP 148 (wl_at (by decide) e81) rfl 30 (by decide) (hts (.fieldLink RX9 230 "EightReasonsModel" "rb" "I") (List.mem_of_getElem? (i := 1) rfl)) (fun _ h9 => h9) rfl dX9_readStrand_185 ?_
    refine lv_dup2_11 hx hb dX9_readStrand_188 rfl rfl ?_
    obtain ⟨e82, h83⟩ := (show okIpr cy 2 (0) (12) 1 0 c_strands (f 152) from hT.1 152 (by decide))
    refine va_iald hx hb hK hP 152 0 (wl_at (by decide) e82) rfl (vp_in_iff.mpr ⟨by omega, by omega⟩) dX9_readStrand_189 ?_
    refine lv_topi (fun x84 ex84 => ?_)
    have hx84 := r_el (h83 _ (Nat.mod_one _)) ex84
    have kx84 := congrArg Int32.toInt ex84
    have ha85 : 0 ≤ x84.toInt ∧ x84.toInt ≤ 11 := by omega
    refine lv_iconst (v := 1) hx hb dX9_readStrand_190 (by decide) ?_
    refine lv_iadd hx hb dX9_readStrand_191 ?_
    refine lv_topi (fun x86 ex86 => ?_)
    have hx86 := r_add ex86 (by omega) (by omega)
    refine va_iast hx hb hK hP hD hS 152 0 (wl_at (by decide) e82) rfl (vp_in_iff.mpr ⟨by omega, by omega⟩) dX9_readStrand_192 (fun H locs hP hD hS => ?_)
    obtain ⟨c87, ec87⟩ : ∃ q, q = upd c_strands (Int32.toNatClampNeg m_rb) x86 := ⟨_, rfl⟩
    rw [← ec87] at hP hD
    obtain ⟨f, hT, hP, hD, e88, hj89⟩ := stU (by decide) (TYm.p152 hT (show OKm ad cy c_text m_taped m_size x50 x51 x52 x53 x54 x55 y56 c_points c87 c_units c_told c_ruleFrom c_ruleTo c_code c_eWhat c_eSign m_bank m_rb m_codes m_within m_piled m_unitsInRule m_askStrand m_askTied m_thoughtClaim m_thoughtNeed m_thoughtAll c_roundOf m_acts m_undone m_laid m_firstMove m_seens m_time m_waysNow m_fitting 152 _ from (show okIpr cy 2 (0) (12) 1 0 c87 _ from ⟨rfl, by rw [ec87]; exact upd_r h83 (fun _ => by omega)⟩))) hP hD
    have e90 := (hj89 148 (by decide)).trans e81
    exact tV hx hb hr hlk hP hS ⟨trivial, ⟨x50, x51, x52, x53, x54, x55, y56, c87, hT, by omega, by omega, by omega⟩⟩ dX9_readStrand_193
  have j91 : ∀ (N : Nat) (f : Nat → va_E) (H : Heap) (locs : List Loc) (ls : Array Slot) (v91_l4 : Int32) (v91_l3 : Int32) (v91_l2 : Int32) (v91_l1 : Int32) (v91_p_m_faultKind : Int32) (v91_p_m_faultPlace : Int32) (v91_p_m_at : Int32) (v91_p_m_end : Int32) (v91_p_m_token : Int32) (v91_p_m_number : Int32) (v91_p_m_name : Int64), (25 - v91_l4.toInt ≤ (N : Int)) → (0 ≤ v91_l4.toInt ∧ v91_l4.toInt ≤ 24) → (0 ≤ v91_l3.toInt ∧ v91_l3.toInt ≤ 1) → (-1 ≤ v91_l2.toInt ∧ v91_l2.toInt ≤ 9) → (0 ≤ v91_l1.toInt ∧ v91_l1.toInt ≤ 23) → (0 ≤ v91_p_m_faultKind.toInt ∧ v91_p_m_faultKind.toInt ≤ 0) → (0 ≤ v91_p_m_end.toInt ∧ v91_p_m_end.toInt ≤ 1600) → (((v91_p_m_token.toInt = 0 ∧ v91_p_m_at.toInt = m_size.toInt ∧ v91_p_m_end.toInt = m_size.toInt) ∨ (1 ≤ v91_p_m_token.toInt ∧ v91_p_m_at.toInt < v91_p_m_end.toInt ∧ v91_p_m_end.toInt ≤ m_size.toInt))) → (m_at.toInt ≤ v91_p_m_at.toInt) → (TYm ad cy fr0 c_text m_taped m_size v91_p_m_faultKind v91_p_m_faultPlace v91_p_m_at v91_p_m_end v91_p_m_token v91_p_m_number v91_p_m_name c_points c_strands c_units c_told c_ruleFrom c_ruleTo c_code c_eWhat c_eSign m_bank m_rb m_codes m_within m_piled m_unitsInRule m_askStrand m_askTied m_thoughtClaim m_thoughtNeed m_thoughtAll c_roundOf m_acts m_undone m_laid m_firstMove m_seens m_time m_waysNow m_fitting f) → (va_P D vwCl (wl ad f) H) → (va_D A (wl ad f)) → (va_S A s.heap H locs) → (lv_has ls 5 [(4, .int v91_l4), (3, .int v91_l3), (2, .int v91_l2), (1, .int v91_l1), (0, .ref (ad 148))]) → W p l e (rmO 4 91 0 0) s m ([.ref (ad 148)] : List Value).toArray below meth c H locs 0 0 (MQ below (va_Qv (fun (g : Nat → va_E) => True ∧ (∃ (m_faultKind' : Int32) (m_faultPlace' : Int32) (m_at' : Int32) (m_end' : Int32) (m_token' : Int32) (m_number' : Int32) (m_name' : Int64) (c_strands' : Nat → Int32), TYm ad cy fr0 c_text m_taped m_size m_faultKind' m_faultPlace' m_at' m_end' m_token' m_number' m_name' c_points c_strands' c_units c_told c_ruleFrom c_ruleTo c_code c_eWhat c_eSign m_bank m_rb m_codes m_within m_piled m_unitsInRule m_askStrand m_askTied m_thoughtClaim m_thoughtNeed m_thoughtAll c_roundOf m_acts m_undone m_laid m_firstMove m_seens m_time m_waysNow m_fitting g ∧ (0 ≤ m_end'.toInt ∧ m_end'.toInt ≤ 1600) ∧ ((m_token'.toInt = 0 ∧ m_at'.toInt = m_size.toInt ∧ m_end'.toInt = m_size.toInt) ∨ (1 ≤ m_token'.toInt ∧ m_at'.toInt < m_end'.toInt ∧ m_end'.toInt ≤ m_size.toInt)) ∧ m_at.toInt ≤ m_at'.toInt)) (fun g t => PstT D ad g t) A) ([.ref (ad 148)] : List Value).toArray s 0 0 A) (F0 m 91 ls []) := by
    intro N
    induction N with
    | zero => intro f H locs ls v91_l4 v91_l3 v91_l2 v91_l1 v91_p_m_faultKind v91_p_m_faultPlace v91_p_m_at v91_p_m_end v91_p_m_token v91_p_m_number v91_p_m_name hN hv91_l4 hv91_l3 hv91_l2 hv91_l1 hv91_p_m_faultKind hv91_p_m_end hJ91_0 hJ91_1 hT hP hD hS hl; exact absurd hN (by omega)
    | succ N ih91 =>
      intro f H locs ls v91_l4 v91_l3 v91_l2 v91_l1 v91_p_m_faultKind v91_p_m_faultPlace v91_p_m_at v91_p_m_end v91_p_m_token v91_p_m_number v91_p_m_name hN hv91_l4 hv91_l3 hv91_l2 hv91_l1 hv91_p_m_faultKind hv91_p_m_end hJ91_0 hJ91_1 hT hP hD hS hl
      have j133 : ∀ (f : Nat → va_E) (H : Heap) (locs : List Loc) (ls : Array Slot) (v133_s0 : Int32), (0 ≤ v91_l4.toInt ∧ v91_l4.toInt ≤ 22) → (0 ≤ v91_l3.toInt ∧ v91_l3.toInt ≤ 1) → (-1 ≤ v91_l2.toInt ∧ v91_l2.toInt ≤ 9) → (1 ≤ v91_l1.toInt ∧ v91_l1.toInt ≤ 23) → (0 ≤ v133_s0.toInt ∧ v133_s0.toInt ≤ 1) → (0 ≤ v91_p_m_faultKind.toInt ∧ v91_p_m_faultKind.toInt ≤ 0) → (0 ≤ v91_p_m_end.toInt ∧ v91_p_m_end.toInt ≤ 1600) → (((v91_p_m_token.toInt = 0 ∧ v91_p_m_at.toInt = m_size.toInt ∧ v91_p_m_end.toInt = m_size.toInt) ∨ (1 ≤ v91_p_m_token.toInt ∧ v91_p_m_at.toInt < v91_p_m_end.toInt ∧ v91_p_m_end.toInt ≤ m_size.toInt))) → (m_at.toInt ≤ v91_p_m_at.toInt) → (TYm ad cy fr0 c_text m_taped m_size v91_p_m_faultKind v91_p_m_faultPlace v91_p_m_at v91_p_m_end v91_p_m_token v91_p_m_number v91_p_m_name c_points c_strands c_units c_told c_ruleFrom c_ruleTo c_code c_eWhat c_eSign m_bank m_rb m_codes m_within m_piled m_unitsInRule m_askStrand m_askTied m_thoughtClaim m_thoughtNeed m_thoughtAll c_roundOf m_acts m_undone m_laid m_firstMove m_seens m_time m_waysNow m_fitting f) → (va_P D vwCl (wl ad f) H) → (va_D A (wl ad f)) → (va_S A s.heap H locs) → (lv_has ls 5 [(4, .int v91_l4), (3, .int v91_l3), (2, .int v91_l2), (1, .int v91_l1), (0, .ref (ad 148))]) → W p l e (rmO 4 91 0 0) s m ([.ref (ad 148)] : List Value).toArray below meth c H locs 0 0 (MQ below (va_Qv (fun (g : Nat → va_E) => True ∧ (∃ (m_faultKind' : Int32) (m_faultPlace' : Int32) (m_at' : Int32) (m_end' : Int32) (m_token' : Int32) (m_number' : Int32) (m_name' : Int64) (c_strands' : Nat → Int32), TYm ad cy fr0 c_text m_taped m_size m_faultKind' m_faultPlace' m_at' m_end' m_token' m_number' m_name' c_points c_strands' c_units c_told c_ruleFrom c_ruleTo c_code c_eWhat c_eSign m_bank m_rb m_codes m_within m_piled m_unitsInRule m_askStrand m_askTied m_thoughtClaim m_thoughtNeed m_thoughtAll c_roundOf m_acts m_undone m_laid m_firstMove m_seens m_time m_waysNow m_fitting g ∧ (0 ≤ m_end'.toInt ∧ m_end'.toInt ≤ 1600) ∧ ((m_token'.toInt = 0 ∧ m_at'.toInt = m_size.toInt ∧ m_end'.toInt = m_size.toInt) ∨ (1 ≤ m_token'.toInt ∧ m_at'.toInt < m_end'.toInt ∧ m_end'.toInt ≤ m_size.toInt)) ∧ m_at.toInt ≤ m_at'.toInt)) (fun g t => PstT D ad g t) A) ([.ref (ad 148)] : List Value).toArray s 0 0 A) (F0 m 133 ls [.int v133_s0]) := by
        intro f H locs ls v133_s0 hv133_l4 hv133_l3 hv133_l2 hv133_l1 hv133_s0 hv133_p_m_faultKind hv133_p_m_end hJ133_0 hJ133_1 hT hP hD hS hl
        refine lv_istore_n (lv' := [(3, .int v133_s0), (4, .int v91_l4), (2, .int v91_l2), (1, .int v91_l1), (0, .ref (ad 148))]) hx hb dX9_readStrand_133 rfl hl (by decide) rfl (fun ls hl => ?_)
        obtain ⟨x91, ex91⟩ : ∃ q : Int32, q = v91_l4 + Int32.ofInt (1) := ⟨_, rfl⟩
        refine lv_iinc (v := x91) (lv' := [(4, .int x91), (3, .int v133_s0), (2, .int v91_l2), (1, .int v91_l1), (0, .ref (ad 148))]) hx hb dX9_readStrand_134 hl (k := 1) rfl ex91.symm (by decide) rfl (fun ls hl => ?_)
        have hx91 := r_inc ex91 (by decide) (by omega) (by omega)
        refine lv_goto (tgt := 91) hx hb dX9_readStrand_137 (by decide) ?_
        exact ih91 f H locs ls x91 v133_s0 v91_l2 v91_l1 v91_p_m_faultKind v91_p_m_faultPlace v91_p_m_at v91_p_m_end v91_p_m_token v91_p_m_number v91_p_m_name (by omega) (by omega) (by omega) (by omega) (by omega) (by omega) (by omega) (by omega) (by omega) hT hP hD hS (lv_sub hl [0, 1, 2, 3, 4] rfl)
      have j132 : ∀ (f : Nat → va_E) (H : Heap) (locs : List Loc) (ls : Array Slot), (0 ≤ v91_l4.toInt ∧ v91_l4.toInt ≤ 22) → (0 ≤ v91_l3.toInt ∧ v91_l3.toInt ≤ 0) → (-1 ≤ v91_l2.toInt ∧ v91_l2.toInt ≤ 9) → (1 ≤ v91_l1.toInt ∧ v91_l1.toInt ≤ 23) → (0 ≤ v91_p_m_faultKind.toInt ∧ v91_p_m_faultKind.toInt ≤ 0) → (0 ≤ v91_p_m_end.toInt ∧ v91_p_m_end.toInt ≤ 1600) → (((v91_p_m_token.toInt = 0 ∧ v91_p_m_at.toInt = m_size.toInt ∧ v91_p_m_end.toInt = m_size.toInt) ∨ (1 ≤ v91_p_m_token.toInt ∧ v91_p_m_at.toInt < v91_p_m_end.toInt ∧ v91_p_m_end.toInt ≤ m_size.toInt))) → (m_at.toInt ≤ v91_p_m_at.toInt) → (TYm ad cy fr0 c_text m_taped m_size v91_p_m_faultKind v91_p_m_faultPlace v91_p_m_at v91_p_m_end v91_p_m_token v91_p_m_number v91_p_m_name c_points c_strands c_units c_told c_ruleFrom c_ruleTo c_code c_eWhat c_eSign m_bank m_rb m_codes m_within m_piled m_unitsInRule m_askStrand m_askTied m_thoughtClaim m_thoughtNeed m_thoughtAll c_roundOf m_acts m_undone m_laid m_firstMove m_seens m_time m_waysNow m_fitting f) → (va_P D vwCl (wl ad f) H) → (va_D A (wl ad f)) → (va_S A s.heap H locs) → (lv_has ls 5 [(4, .int v91_l4), (3, .int v91_l3), (2, .int v91_l2), (1, .int v91_l1), (0, .ref (ad 148))]) → W p l e (rmO 4 91 0 0) s m ([.ref (ad 148)] : List Value).toArray below meth c H locs 0 0 (MQ below (va_Qv (fun (g : Nat → va_E) => True ∧ (∃ (m_faultKind' : Int32) (m_faultPlace' : Int32) (m_at' : Int32) (m_end' : Int32) (m_token' : Int32) (m_number' : Int32) (m_name' : Int64) (c_strands' : Nat → Int32), TYm ad cy fr0 c_text m_taped m_size m_faultKind' m_faultPlace' m_at' m_end' m_token' m_number' m_name' c_points c_strands' c_units c_told c_ruleFrom c_ruleTo c_code c_eWhat c_eSign m_bank m_rb m_codes m_within m_piled m_unitsInRule m_askStrand m_askTied m_thoughtClaim m_thoughtNeed m_thoughtAll c_roundOf m_acts m_undone m_laid m_firstMove m_seens m_time m_waysNow m_fitting g ∧ (0 ≤ m_end'.toInt ∧ m_end'.toInt ≤ 1600) ∧ ((m_token'.toInt = 0 ∧ m_at'.toInt = m_size.toInt ∧ m_end'.toInt = m_size.toInt) ∨ (1 ≤ m_token'.toInt ∧ m_at'.toInt < m_end'.toInt ∧ m_end'.toInt ≤ m_size.toInt)) ∧ m_at.toInt ≤ m_at'.toInt)) (fun g t => PstT D ad g t) A) ([.ref (ad 148)] : List Value).toArray s 0 0 A) (F0 m 132 ls []) := by
        intro f H locs ls hv132_l4 hv132_l3 hv132_l2 hv132_l1 hv132_p_m_faultKind hv132_p_m_end hJ132_0 hJ132_1 hT hP hD hS hl
        refine lv_iconst (v := 0) hx hb dX9_readStrand_132 (by decide) ?_
        have ttl_0 := tl_0
        exact j133 f H locs ls (0 : Int32) (by omega) (by omega) (by omega) (by omega) (by omega) (by omega) (by omega) (by omega) (by omega) hT hP hD hS (lv_sub hl [0, 1, 2, 3, 4] rfl)
      have j128 : ∀ (f : Nat → va_E) (H : Heap) (locs : List Loc) (ls : Array Slot), (0 ≤ v91_l4.toInt ∧ v91_l4.toInt ≤ 22) → (0 ≤ v91_l3.toInt ∧ v91_l3.toInt ≤ 1) → (-1 ≤ v91_l2.toInt ∧ v91_l2.toInt ≤ 9) → (1 ≤ v91_l1.toInt ∧ v91_l1.toInt ≤ 23) → (0 ≤ v91_p_m_faultKind.toInt ∧ v91_p_m_faultKind.toInt ≤ 0) → (0 ≤ v91_p_m_end.toInt ∧ v91_p_m_end.toInt ≤ 1600) → (((v91_p_m_token.toInt = 0 ∧ v91_p_m_at.toInt = m_size.toInt ∧ v91_p_m_end.toInt = m_size.toInt) ∨ (1 ≤ v91_p_m_token.toInt ∧ v91_p_m_at.toInt < v91_p_m_end.toInt ∧ v91_p_m_end.toInt ≤ m_size.toInt))) → (m_at.toInt ≤ v91_p_m_at.toInt) → (TYm ad cy fr0 c_text m_taped m_size v91_p_m_faultKind v91_p_m_faultPlace v91_p_m_at v91_p_m_end v91_p_m_token v91_p_m_number v91_p_m_name c_points c_strands c_units c_told c_ruleFrom c_ruleTo c_code c_eWhat c_eSign m_bank m_rb m_codes m_within m_piled m_unitsInRule m_askStrand m_askTied m_thoughtClaim m_thoughtNeed m_thoughtAll c_roundOf m_acts m_undone m_laid m_firstMove m_seens m_time m_waysNow m_fitting f) → (va_P D vwCl (wl ad f) H) → (va_D A (wl ad f)) → (va_S A s.heap H locs) → (lv_has ls 5 [(4, .int v91_l4), (3, .int v91_l3), (2, .int v91_l2), (1, .int v91_l1), (0, .ref (ad 148))]) → W p l e (rmO 4 91 0 0) s m ([.ref (ad 148)] : List Value).toArray below meth c H locs 0 0 (MQ below (va_Qv (fun (g : Nat → va_E) => True ∧ (∃ (m_faultKind' : Int32) (m_faultPlace' : Int32) (m_at' : Int32) (m_end' : Int32) (m_token' : Int32) (m_number' : Int32) (m_name' : Int64) (c_strands' : Nat → Int32), TYm ad cy fr0 c_text m_taped m_size m_faultKind' m_faultPlace' m_at' m_end' m_token' m_number' m_name' c_points c_strands' c_units c_told c_ruleFrom c_ruleTo c_code c_eWhat c_eSign m_bank m_rb m_codes m_within m_piled m_unitsInRule m_askStrand m_askTied m_thoughtClaim m_thoughtNeed m_thoughtAll c_roundOf m_acts m_undone m_laid m_firstMove m_seens m_time m_waysNow m_fitting g ∧ (0 ≤ m_end'.toInt ∧ m_end'.toInt ≤ 1600) ∧ ((m_token'.toInt = 0 ∧ m_at'.toInt = m_size.toInt ∧ m_end'.toInt = m_size.toInt) ∨ (1 ≤ m_token'.toInt ∧ m_at'.toInt < m_end'.toInt ∧ m_end'.toInt ≤ m_size.toInt)) ∧ m_at.toInt ≤ m_at'.toInt)) (fun g t => PstT D ad g t) A) ([.ref (ad 148)] : List Value).toArray s 0 0 A) (F0 m 128 ls []) := by
        intro f H locs ls hv128_l4 hv128_l3 hv128_l2 hv128_l1 hv128_p_m_faultKind hv128_p_m_end hJ128_0 hJ128_1 hT hP hD hS hl
        refine lv_iconst (v := 1) hx hb dX9_readStrand_128 (by decide) ?_
        refine lv_goto (tgt := 133) hx hb dX9_readStrand_129 (by decide) ?_
        have ttl_1 := tl_1
        exact j133 f H locs ls (1 : Int32) (by omega) (by omega) (by omega) (by omega) (by omega) (by omega) (by omega) (by omega) (by omega) hT hP hD hS (lv_sub hl [0, 1, 2, 3, 4] rfl)
      refine lv_iload hx hb dX9_readStrand_91 (lv_at hl 0 rfl) ?_
      refine lv_iload_n hx hb dX9_readStrand_93 rfl (lv_at hl 3 rfl) ?_
      refine lv_icmp_ge (tgt := 140) hx hb dX9_readStrand_94 (by decide) (fun c92 => ?_) (fun c92 => ?_)
      · have kc92 := c_le c92
        refine lv_iload_n hx hb dX9_readStrand_140 rfl (lv_at hl 1 rfl) ?_
        have ttl_0 := tl_0
        refine lv_if_eq (tgt := 153) hx hb dX9_readStrand_141 (by decide) (fun c93 => ?_) (fun c93 => ?_)
        · have kc93 := c_eq c93
          exact j153 f H locs ls v91_l4 v91_l3 v91_l2 v91_l1 v91_p_m_faultKind v91_p_m_faultPlace v91_p_m_at v91_p_m_end v91_p_m_token v91_p_m_number v91_p_m_name (by omega) (by omega) (by omega) (by omega) (by omega) (by omega) (by omega) hT hP hD hS (lv_sub hl [0, 1, 2, 3, 4] rfl)
        · have kc93 := c_ne c93
          refine lv_aload_n hx hb dX9_readStrand_144 rfl (lv_at hl 4 rfl) ?_
          refine lv_iconst (v := 3) hx hb dX9_readStrand_145 (by decide) ?_
          refine lv_aload_n hx hb dX9_readStrand_146 rfl (lv_at hl 4 rfl) ?_
          obtain ⟨e109, h94, h95, h96, h97, h98, h99, h100, h101, h102, h103, h104, h105, h106, h107, h108⟩ := (show okX9 ad m_taped m_size v91_p_m_faultKind v91_p_m_faultPlace v91_p_m_at v91_p_m_end v91_p_m_token v91_p_m_number v91_p_m_name m_bank m_rb m_codes m_within m_piled m_unitsInRule m_askStrand m_askTied m_thoughtClaim m_thoughtNeed m_thoughtAll m_acts m_undone m_laid m_firstMove m_seens m_time m_waysNow m_fitting 148 (f 148) from hT.1 148 (by decide))
          refine va_get (D := D) (cl := vwCl) (ci := 9) (v := .int v91_p_m_at) (C := RX9) (T := TX9) (N := 64) hx hb hts in_X9_readStrand_X9 hown hK hP 148 (wl_at (by decide) e109) rfl 6 (by decide) (hts (.fieldLink RX9 174 "EightReasonsModel" "at" "I") (List.mem_of_getElem? (i := 6) rfl)) (fun _ h9 => h9) rfl dX9_readStrand_147 ?_
          have ttl_3 := tl_3
          refine tVV (As := [.int 3, .int v91_p_m_at]) (rest := []) (i := 148) ⟨hx, hb, hml, hown, hts⟩ hK hE hP hD hS hA hAB (s_X9_fails_0 l B0 adK adV D cy ad fr0 c_text m_taped m_size v91_p_m_faultKind v91_p_m_faultPlace v91_p_m_at v91_p_m_end v91_p_m_token v91_p_m_number v91_p_m_name c_points c_strands c_units c_told c_ruleFrom c_ruleTo c_code c_eWhat c_eSign m_bank m_rb m_codes m_within m_piled m_unitsInRule m_askStrand m_askTied m_thoughtClaim m_thoughtNeed m_thoughtAll c_roundOf m_acts m_undone m_laid m_firstMove m_seens m_time m_waysNow m_fitting f hT (3 : Int32) (by omega) v91_p_m_at (by omega) _) (cwV 2 hts gX9_readStrand_X9_fails rfl rfl rfl (by decide +kernel) ⟨Nat.le_of_ble_eq_true rfl, Nat.le_of_ble_eq_true rfl⟩) (by decide) 9 e109 rfl rfl hl.1 rfl (Nat.le_of_ble_eq_true rfl) dX9_readStrand_150 ⟨Nat.le_of_ble_eq_true rfl, Nat.le_of_ble_eq_true rfl⟩ (fun f H locs hw hP hD hS => ?_)
          obtain ⟨hrs, x110, x111, hT, h112⟩ := hw
          exact j153 f H locs ls v91_l4 v91_l3 v91_l2 v91_l1 x110 x111 v91_p_m_at v91_p_m_end v91_p_m_token v91_p_m_number v91_p_m_name (by omega) (by omega) (by omega) (by omega) (by omega) (by omega) (by omega) hT hP hD hS (lv_sub hl [0, 1, 2, 3, 4] rfl)
      · have kc92 := c_nle c92
        refine lv_iload_n hx hb dX9_readStrand_97 rfl (lv_at hl 1 rfl) ?_
        have ttl_0 := tl_0
        refine lv_if_ne (tgt := 128) hx hb dX9_readStrand_98 (by decide) (fun c113 => ?_) (fun c113 => ?_)
        · have kc113 := c_ne c113
          exact j128 f H locs ls (by omega) (by omega) (by omega) (by omega) (by omega) (by omega) (by omega) (by omega) hT hP hD hS (lv_sub hl [0, 1, 2, 3, 4] rfl)
        · have kc113 := c_eq c113
          refine lv_aload_n hx hb dX9_readStrand_101 rfl (lv_at hl 4 rfl) ?_
          obtain ⟨e129, h114, h115, h116, h117, h118, h119, h120, h121, h122, h123, h124, h125, h126, h127, h128⟩ := (show okX9 ad m_taped m_size v91_p_m_faultKind v91_p_m_faultPlace v91_p_m_at v91_p_m_end v91_p_m_token v91_p_m_number v91_p_m_name m_bank m_rb m_codes m_within m_piled m_unitsInRule m_askStrand m_askTied m_thoughtClaim m_thoughtNeed m_thoughtAll m_acts m_undone m_laid m_firstMove m_seens m_time m_waysNow m_fitting 148 (f 148) from hT.1 148 (by decide))
          refine va_get (D := D) (cl := vwCl) (ci := 9) (v := .ref (ad 158)) (C := RX9) (T := TX9) (N := 64) hx hb hts in_X9_readStrand_X9 hown hK hP 148 (wl_at (by decide) e129) rfl 18 (by decide) (hts (.fieldLink RX9 42 "EightReasonsModel" "from" "[I") (List.mem_of_getElem? (i := 3) rfl)) (fun _ h9 => h9) rfl dX9_readStrand_102 ?_
          refine lv_iload hx hb dX9_readStrand_105 (lv_at hl 0 rfl) ?_
          obtain ⟨g132, e130, h131⟩ := (show okIr cy 24 (0) (9) 1 0 (f 158) from hT.1 158 (by decide))
          refine va_iald hx hb hK hP 158 0 (wl_at (by decide) e130) rfl (vp_in_iff.mpr ⟨by omega, by omega⟩) dX9_readStrand_107 ?_
          refine lv_topi (fun x133 ex133 => ?_)
          have hx133 := r_el (h131 _ (Nat.mod_one _)) ex133
          refine lv_aload_n hx hb dX9_readStrand_108 rfl (lv_at hl 4 rfl) ?_
          refine va_get (D := D) (cl := vwCl) (ci := 9) (v := .ref (ad 158)) (C := RX9) (T := TX9) (N := 64) hx hb hts in_X9_readStrand_X9 hown hK hP 148 (wl_at (by decide) e129) rfl 18 (by decide) (hts (.fieldLink RX9 42 "EightReasonsModel" "from" "[I") (List.mem_of_getElem? (i := 3) rfl)) (fun _ h9 => h9) rfl dX9_readStrand_109 ?_
          refine lv_iload_n hx hb dX9_readStrand_112 rfl (lv_at hl 3 rfl) ?_
          refine va_iald hx hb hK hP 158 0 (wl_at (by decide) e130) rfl (vp_in_iff.mpr ⟨by omega, by omega⟩) dX9_readStrand_113 ?_
          refine lv_topi (fun x134 ex134 => ?_)
          have hx134 := r_el (h131 _ (Nat.mod_one _)) ex134
          refine lv_icmp_ne (tgt := 132) hx hb dX9_readStrand_114 (by decide) (fun c135 => ?_) (fun c135 => ?_)
          · have kc135 := c_ne c135
            exact j132 f H locs ls (by omega) (by omega) (by omega) (by omega) (by omega) (by omega) (by omega) (by omega) hT hP hD hS (lv_sub hl [0, 1, 2, 3, 4] rfl)
          · have kc135 := c_eq c135
            refine lv_aload_n hx hb dX9_readStrand_117 rfl (lv_at hl 4 rfl) ?_
            refine va_get (D := D) (cl := vwCl) (ci := 9) (v := .ref (ad 159)) (C := RX9) (T := TX9) (N := 64) hx hb hts in_X9_readStrand_X9 hown hK hP 148 (wl_at (by decide) e129) rfl 19 (by decide) (hts (.fieldLink RX9 45 "EightReasonsModel" "to" "[I") (List.mem_of_getElem? (i := 5) rfl)) (fun _ h9 => h9) rfl dX9_readStrand_118 ?_
            refine lv_iload hx hb dX9_readStrand_121 (lv_at hl 0 rfl) ?_
            obtain ⟨g138, e136, h137⟩ := (show okIr cy 24 (0) (9) 1 0 (f 159) from hT.1 159 (by decide))
            refine va_iald hx hb hK hP 159 0 (wl_at (by decide) e136) rfl (vp_in_iff.mpr ⟨by omega, by omega⟩) dX9_readStrand_123 ?_
            refine lv_topi (fun x139 ex139 => ?_)
            have hx139 := r_el (h137 _ (Nat.mod_one _)) ex139
            refine lv_iload_n hx hb dX9_readStrand_124 rfl (lv_at hl 2 rfl) ?_
            refine lv_icmp_ne (tgt := 132) hx hb dX9_readStrand_125 (by decide) (fun c140 => ?_) (fun c140 => ?_)
            · have kc140 := c_ne c140
              exact j132 f H locs ls (by omega) (by omega) (by omega) (by omega) (by omega) (by omega) (by omega) (by omega) hT hP hD hS (lv_sub hl [0, 1, 2, 3, 4] rfl)
            · have kc140 := c_eq c140
              exact j128 f H locs ls (by omega) (by omega) (by omega) (by omega) (by omega) (by omega) (by omega) (by omega) hT hP hD hS (lv_sub hl [0, 1, 2, 3, 4] rfl)
  have j81 : ∀ (f : Nat → va_E) (H : Heap) (locs : List Loc) (ls : Array Slot) (v81_l2 : Int32) (v81_l1 : Int32) (v81_s0 : Int32) (v81_p_m_faultKind : Int32) (v81_p_m_faultPlace : Int32) (v81_p_m_at : Int32) (v81_p_m_end : Int32) (v81_p_m_token : Int32) (v81_p_m_number : Int32) (v81_p_m_name : Int64), (-1 ≤ v81_l2.toInt ∧ v81_l2.toInt ≤ 9) → (0 ≤ v81_l1.toInt ∧ v81_l1.toInt ≤ 23) → (0 ≤ v81_s0.toInt ∧ v81_s0.toInt ≤ 1) → (0 ≤ v81_p_m_faultKind.toInt ∧ v81_p_m_faultKind.toInt ≤ 0) → (0 ≤ v81_p_m_end.toInt ∧ v81_p_m_end.toInt ≤ 1600) → (((v81_p_m_token.toInt = 0 ∧ v81_p_m_at.toInt = m_size.toInt ∧ v81_p_m_end.toInt = m_size.toInt) ∨ (1 ≤ v81_p_m_token.toInt ∧ v81_p_m_at.toInt < v81_p_m_end.toInt ∧ v81_p_m_end.toInt ≤ m_size.toInt))) → (m_at.toInt ≤ v81_p_m_at.toInt) → (TYm ad cy fr0 c_text m_taped m_size v81_p_m_faultKind v81_p_m_faultPlace v81_p_m_at v81_p_m_end v81_p_m_token v81_p_m_number v81_p_m_name c_points c_strands c_units c_told c_ruleFrom c_ruleTo c_code c_eWhat c_eSign m_bank m_rb m_codes m_within m_piled m_unitsInRule m_askStrand m_askTied m_thoughtClaim m_thoughtNeed m_thoughtAll c_roundOf m_acts m_undone m_laid m_firstMove m_seens m_time m_waysNow m_fitting f) → (va_P D vwCl (wl ad f) H) → (va_D A (wl ad f)) → (va_S A s.heap H locs) → (lv_has ls 5 [(2, .int v81_l2), (1, .int v81_l1), (0, .ref (ad 148))]) → W p l e (rmO 4 91 0 0) s m ([.ref (ad 148)] : List Value).toArray below meth c H locs 0 0 (MQ below (va_Qv (fun (g : Nat → va_E) => True ∧ (∃ (m_faultKind' : Int32) (m_faultPlace' : Int32) (m_at' : Int32) (m_end' : Int32) (m_token' : Int32) (m_number' : Int32) (m_name' : Int64) (c_strands' : Nat → Int32), TYm ad cy fr0 c_text m_taped m_size m_faultKind' m_faultPlace' m_at' m_end' m_token' m_number' m_name' c_points c_strands' c_units c_told c_ruleFrom c_ruleTo c_code c_eWhat c_eSign m_bank m_rb m_codes m_within m_piled m_unitsInRule m_askStrand m_askTied m_thoughtClaim m_thoughtNeed m_thoughtAll c_roundOf m_acts m_undone m_laid m_firstMove m_seens m_time m_waysNow m_fitting g ∧ (0 ≤ m_end'.toInt ∧ m_end'.toInt ≤ 1600) ∧ ((m_token'.toInt = 0 ∧ m_at'.toInt = m_size.toInt ∧ m_end'.toInt = m_size.toInt) ∨ (1 ≤ m_token'.toInt ∧ m_at'.toInt < m_end'.toInt ∧ m_end'.toInt ≤ m_size.toInt)) ∧ m_at.toInt ≤ m_at'.toInt)) (fun g t => PstT D ad g t) A) ([.ref (ad 148)] : List Value).toArray s 0 0 A) (F0 m 81 ls [.int v81_s0]) := by
    intro f H locs ls v81_l2 v81_l1 v81_s0 v81_p_m_faultKind v81_p_m_faultPlace v81_p_m_at v81_p_m_end v81_p_m_token v81_p_m_number v81_p_m_name hv81_l2 hv81_l1 hv81_s0 hv81_p_m_faultKind hv81_p_m_end hJ81_0 hJ81_1 hT hP hD hS hl
    refine lv_istore_n (lv' := [(3, .int v81_s0), (2, .int v81_l2), (1, .int v81_l1), (0, .ref (ad 148))]) hx hb dX9_readStrand_81 rfl hl (by decide) rfl (fun ls hl => ?_)
    refine lv_bipush (v := 12) hx hb dX9_readStrand_82 (by decide) ?_
    refine lv_aload_n hx hb dX9_readStrand_84 rfl (lv_at hl 3 rfl) ?_
    obtain ⟨e156, h141, h142, h143, h144, h145, h146, h147, h148, h149, h150, h151, h152, h153, h154, h155⟩ := (show okX9 ad m_taped m_size v81_p_m_faultKind v81_p_m_faultPlace v81_p_m_at v81_p_m_end v81_p_m_token v81_p_m_number v81_p_m_name m_bank m_rb m_codes m_within m_piled m_unitsInRule m_askStrand m_askTied m_thoughtClaim m_thoughtNeed m_thoughtAll m_acts m_undone m_laid m_firstMove m_seens m_time m_waysNow m_fitting 148 (f 148) from hT.1 148 (by decide))
    refine va_get (D := D) (cl := vwCl) (ci := 9) (v := .int m_rb) (C := RX9) (T := TX9) (N := 64) hx hb hts in_X9_readStrand_X9 hown hK hP 148 (wl_at (by decide) e156) rfl 30 (by decide) (hts (.fieldLink RX9 230 "EightReasonsModel" "rb" "I") (List.mem_of_getElem? (i := 1) rfl)) (fun _ h9 => h9) rfl dX9_readStrand_85 ?_
    refine lv_imul hx hb dX9_readStrand_88 ?_
    refine lv_topi (fun x157 ex157 => ?_)
    have hx157 := r_mull ex157 tl_12 (by omega) (by omega)
    refine lv_istore (lv' := [(4, .int x157), (3, .int v81_s0), (2, .int v81_l2), (1, .int v81_l1), (0, .ref (ad 148))]) hx hb dX9_readStrand_89 hl (by decide) rfl (fun ls hl => ?_)
    exact j91 (Int.toNat (25 - x157.toInt)) f H locs ls x157 v81_s0 v81_l2 v81_l1 v81_p_m_faultKind v81_p_m_faultPlace v81_p_m_at v81_p_m_end v81_p_m_token v81_p_m_number v81_p_m_name (by omega) (by omega) (by omega) (by omega) (by omega) (by omega) (by omega) (by omega) (by omega) hT hP hD hS (lv_sub hl [0, 1, 2, 3, 4] rfl)
  have j80 : ∀ (f : Nat → va_E) (H : Heap) (locs : List Loc) (ls : Array Slot) (v80_l2 : Int32) (v80_l1 : Int32) (v80_p_m_faultKind : Int32) (v80_p_m_faultPlace : Int32) (v80_p_m_at : Int32) (v80_p_m_end : Int32) (v80_p_m_token : Int32) (v80_p_m_number : Int32) (v80_p_m_name : Int64), (-1 ≤ v80_l2.toInt ∧ v80_l2.toInt ≤ 9) → (0 ≤ v80_l1.toInt ∧ v80_l1.toInt ≤ 23) → (0 ≤ v80_p_m_faultKind.toInt ∧ v80_p_m_faultKind.toInt ≤ 0) → (0 ≤ v80_p_m_end.toInt ∧ v80_p_m_end.toInt ≤ 1600) → (((v80_p_m_token.toInt = 0 ∧ v80_p_m_at.toInt = m_size.toInt ∧ v80_p_m_end.toInt = m_size.toInt) ∨ (1 ≤ v80_p_m_token.toInt ∧ v80_p_m_at.toInt < v80_p_m_end.toInt ∧ v80_p_m_end.toInt ≤ m_size.toInt))) → (m_at.toInt ≤ v80_p_m_at.toInt) → (TYm ad cy fr0 c_text m_taped m_size v80_p_m_faultKind v80_p_m_faultPlace v80_p_m_at v80_p_m_end v80_p_m_token v80_p_m_number v80_p_m_name c_points c_strands c_units c_told c_ruleFrom c_ruleTo c_code c_eWhat c_eSign m_bank m_rb m_codes m_within m_piled m_unitsInRule m_askStrand m_askTied m_thoughtClaim m_thoughtNeed m_thoughtAll c_roundOf m_acts m_undone m_laid m_firstMove m_seens m_time m_waysNow m_fitting f) → (va_P D vwCl (wl ad f) H) → (va_D A (wl ad f)) → (va_S A s.heap H locs) → (lv_has ls 5 [(2, .int v80_l2), (1, .int v80_l1), (0, .ref (ad 148))]) → W p l e (rmO 4 91 0 0) s m ([.ref (ad 148)] : List Value).toArray below meth c H locs 0 0 (MQ below (va_Qv (fun (g : Nat → va_E) => True ∧ (∃ (m_faultKind' : Int32) (m_faultPlace' : Int32) (m_at' : Int32) (m_end' : Int32) (m_token' : Int32) (m_number' : Int32) (m_name' : Int64) (c_strands' : Nat → Int32), TYm ad cy fr0 c_text m_taped m_size m_faultKind' m_faultPlace' m_at' m_end' m_token' m_number' m_name' c_points c_strands' c_units c_told c_ruleFrom c_ruleTo c_code c_eWhat c_eSign m_bank m_rb m_codes m_within m_piled m_unitsInRule m_askStrand m_askTied m_thoughtClaim m_thoughtNeed m_thoughtAll c_roundOf m_acts m_undone m_laid m_firstMove m_seens m_time m_waysNow m_fitting g ∧ (0 ≤ m_end'.toInt ∧ m_end'.toInt ≤ 1600) ∧ ((m_token'.toInt = 0 ∧ m_at'.toInt = m_size.toInt ∧ m_end'.toInt = m_size.toInt) ∨ (1 ≤ m_token'.toInt ∧ m_at'.toInt < m_end'.toInt ∧ m_end'.toInt ≤ m_size.toInt)) ∧ m_at.toInt ≤ m_at'.toInt)) (fun g t => PstT D ad g t) A) ([.ref (ad 148)] : List Value).toArray s 0 0 A) (F0 m 80 ls []) := by
    intro f H locs ls v80_l2 v80_l1 v80_p_m_faultKind v80_p_m_faultPlace v80_p_m_at v80_p_m_end v80_p_m_token v80_p_m_number v80_p_m_name hv80_l2 hv80_l1 hv80_p_m_faultKind hv80_p_m_end hJ80_0 hJ80_1 hT hP hD hS hl
    refine lv_iconst (v := 0) hx hb dX9_readStrand_80 (by decide) ?_
    have ttl_0 := tl_0
    exact j81 f H locs ls v80_l2 v80_l1 (0 : Int32) v80_p_m_faultKind v80_p_m_faultPlace v80_p_m_at v80_p_m_end v80_p_m_token v80_p_m_number v80_p_m_name (by omega) (by omega) (by omega) (by omega) (by omega) (by omega) (by omega) hT hP hD hS (lv_sub hl [0, 1, 2] rfl)
  have j76 : ∀ (f : Nat → va_E) (H : Heap) (locs : List Loc) (ls : Array Slot) (v76_l2 : Int32) (v76_l1 : Int32) (v76_p_m_faultKind : Int32) (v76_p_m_faultPlace : Int32) (v76_p_m_at : Int32) (v76_p_m_end : Int32) (v76_p_m_token : Int32) (v76_p_m_number : Int32) (v76_p_m_name : Int64), (0 ≤ v76_l2.toInt ∧ v76_l2.toInt ≤ 9) → (0 ≤ v76_l1.toInt ∧ v76_l1.toInt ≤ 23) → (0 ≤ v76_p_m_faultKind.toInt ∧ v76_p_m_faultKind.toInt ≤ 0) → (0 ≤ v76_p_m_end.toInt ∧ v76_p_m_end.toInt ≤ 1600) → (((v76_p_m_token.toInt = 0 ∧ v76_p_m_at.toInt = m_size.toInt ∧ v76_p_m_end.toInt = m_size.toInt) ∨ (1 ≤ v76_p_m_token.toInt ∧ v76_p_m_at.toInt < v76_p_m_end.toInt ∧ v76_p_m_end.toInt ≤ m_size.toInt))) → (m_at.toInt ≤ v76_p_m_at.toInt) → (TYm ad cy fr0 c_text m_taped m_size v76_p_m_faultKind v76_p_m_faultPlace v76_p_m_at v76_p_m_end v76_p_m_token v76_p_m_number v76_p_m_name c_points c_strands c_units c_told c_ruleFrom c_ruleTo c_code c_eWhat c_eSign m_bank m_rb m_codes m_within m_piled m_unitsInRule m_askStrand m_askTied m_thoughtClaim m_thoughtNeed m_thoughtAll c_roundOf m_acts m_undone m_laid m_firstMove m_seens m_time m_waysNow m_fitting f) → (va_P D vwCl (wl ad f) H) → (va_D A (wl ad f)) → (va_S A s.heap H locs) → (lv_has ls 5 [(2, .int v76_l2), (1, .int v76_l1), (0, .ref (ad 148))]) → W p l e (rmO 4 91 0 0) s m ([.ref (ad 148)] : List Value).toArray below meth c H locs 0 0 (MQ below (va_Qv (fun (g : Nat → va_E) => True ∧ (∃ (m_faultKind' : Int32) (m_faultPlace' : Int32) (m_at' : Int32) (m_end' : Int32) (m_token' : Int32) (m_number' : Int32) (m_name' : Int64) (c_strands' : Nat → Int32), TYm ad cy fr0 c_text m_taped m_size m_faultKind' m_faultPlace' m_at' m_end' m_token' m_number' m_name' c_points c_strands' c_units c_told c_ruleFrom c_ruleTo c_code c_eWhat c_eSign m_bank m_rb m_codes m_within m_piled m_unitsInRule m_askStrand m_askTied m_thoughtClaim m_thoughtNeed m_thoughtAll c_roundOf m_acts m_undone m_laid m_firstMove m_seens m_time m_waysNow m_fitting g ∧ (0 ≤ m_end'.toInt ∧ m_end'.toInt ≤ 1600) ∧ ((m_token'.toInt = 0 ∧ m_at'.toInt = m_size.toInt ∧ m_end'.toInt = m_size.toInt) ∨ (1 ≤ m_token'.toInt ∧ m_at'.toInt < m_end'.toInt ∧ m_end'.toInt ≤ m_size.toInt)) ∧ m_at.toInt ≤ m_at'.toInt)) (fun g t => PstT D ad g t) A) ([.ref (ad 148)] : List Value).toArray s 0 0 A) (F0 m 76 ls []) := by
    intro f H locs ls v76_l2 v76_l1 v76_p_m_faultKind v76_p_m_faultPlace v76_p_m_at v76_p_m_end v76_p_m_token v76_p_m_number v76_p_m_name hv76_l2 hv76_l1 hv76_p_m_faultKind hv76_p_m_end hJ76_0 hJ76_1 hT hP hD hS hl
    refine lv_iconst (v := 1) hx hb dX9_readStrand_76 (by decide) ?_
    refine lv_goto (tgt := 81) hx hb dX9_readStrand_77 (by decide) ?_
    have ttl_1 := tl_1
    exact j81 f H locs ls v76_l2 v76_l1 (1 : Int32) v76_p_m_faultKind v76_p_m_faultPlace v76_p_m_at v76_p_m_end v76_p_m_token v76_p_m_number v76_p_m_name (by omega) (by omega) (by omega) (by omega) (by omega) (by omega) (by omega) hT hP hD hS (lv_sub hl [0, 1, 2] rfl)
  refine lv_bipush (v := 12) hx hb dX9_readStrand_0 (by decide) ?_
  refine lv_aload_n hx hb dX9_readStrand_2 rfl (lv_at hl 0 rfl) ?_
  obtain ⟨e173, h158, h159, h160, h161, h162, h163, h164, h165, h166, h167, h168, h169, h170, h171, h172⟩ := (show okX9 ad m_taped m_size m_faultKind m_faultPlace m_at m_end m_token m_number m_name m_bank m_rb m_codes m_within m_piled m_unitsInRule m_askStrand m_askTied m_thoughtClaim m_thoughtNeed m_thoughtAll m_acts m_undone m_laid m_firstMove m_seens m_time m_waysNow m_fitting 148 (f 148) from hT.1 148 (by decide))
  refine va_get (D := D) (cl := vwCl) (ci := 9) (v := .int m_rb) (C := RX9) (T := TX9) (N := 64) hx hb hts in_X9_readStrand_X9 hown hK hP 148 (wl_at (by decide) e173) rfl 30 (by decide) (hts (.fieldLink RX9 230 "EightReasonsModel" "rb" "I") (List.mem_of_getElem? (i := 1) rfl)) (fun _ h9 => h9) rfl dX9_readStrand_3 ?_
  refine lv_imul hx hb dX9_readStrand_6 ?_
  refine lv_topi (fun x174 ex174 => ?_)
  have hx174 := r_mull ex174 tl_12 (by omega) (by omega)
  refine lv_aload_n hx hb dX9_readStrand_7 rfl (lv_at hl 0 rfl) ?_
  refine va_get (D := D) (cl := vwCl) (ci := 9) (v := .ref (ad 152)) (C := RX9) (T := TX9) (N := 64) hx hb hts in_X9_readStrand_X9 hown hK hP 148 (wl_at (by decide) e173) rfl 12 (by decide) (hts (.fieldLink RX9 24 "EightReasonsModel" "strands" "[I") (List.mem_of_getElem? (i := 2) rfl)) (fun _ h9 => h9) rfl dX9_readStrand_8 ?_
  refine lv_aload_n hx hb dX9_readStrand_11 rfl (lv_at hl 0 rfl) ?_
  refine va_get (D := D) (cl := vwCl) (ci := 9) (v := .int m_rb) (C := RX9) (T := TX9) (N := 64) hx hb hts in_X9_readStrand_X9 hown hK hP 148 (wl_at (by decide) e173) rfl 30 (by decide) (hts (.fieldLink RX9 230 "EightReasonsModel" "rb" "I") (List.mem_of_getElem? (i := 1) rfl)) (fun _ h9 => h9) rfl dX9_readStrand_12 ?_
  obtain ⟨e175, h176⟩ := (show okIpr cy 2 (0) (12) 1 0 c_strands (f 152) from hT.1 152 (by decide))
  refine va_iald hx hb hK hP 152 0 (wl_at (by decide) e175) rfl (vp_in_iff.mpr ⟨by omega, by omega⟩) dX9_readStrand_15 ?_
  refine lv_topi (fun x177 ex177 => ?_)
  have hx177 := r_el (h176 _ (Nat.mod_one _)) ex177
  have kx177 := congrArg Int32.toInt ex177
  have ha178 : 0 ≤ x177.toInt ∧ x177.toInt ≤ 11 := by omega
  refine lv_iadd hx hb dX9_readStrand_16 ?_
  refine lv_topi (fun x179 ex179 => ?_)
  have hx179 := r_add ex179 (by omega) (by omega)
  refine lv_istore_n (lv' := [(1, .int x179), (0, .ref (ad 148))]) hx hb dX9_readStrand_17 rfl hl (by decide) rfl (fun ls hl => ?_)
  refine lv_aload_n hx hb dX9_readStrand_18 rfl (lv_at hl 1 rfl) ?_
  refine va_get (D := D) (cl := vwCl) (ci := 9) (v := .ref (ad 158)) (C := RX9) (T := TX9) (N := 64) hx hb hts in_X9_readStrand_X9 hown hK hP 148 (wl_at (by decide) e173) rfl 18 (by decide) (hts (.fieldLink RX9 42 "EightReasonsModel" "from" "[I") (List.mem_of_getElem? (i := 3) rfl)) (fun _ h9 => h9) rfl dX9_readStrand_19 ?_
  refine lv_iload_n hx hb dX9_readStrand_22 rfl (lv_at hl 0 rfl) ?_
  refine lv_aload_n hx hb dX9_readStrand_23 rfl (lv_at hl 1 rfl) ?_
  refine lv_aload_n hx hb dX9_readStrand_24 rfl (lv_at hl 1 rfl) ?_
  refine tVI (As := []) (rest := [.ref (ad 148), .int x179, .ref (ad 158)]) (i := 148) ⟨hx, hb, hml, hown, hts⟩ hK hE hP hD hS hA hAB (s_X9_here_0 l B0 adK adV D cy ad fr0 c_text m_taped m_size m_faultKind m_faultPlace m_at m_end m_token m_number m_name c_points c_strands c_units c_told c_ruleFrom c_ruleTo c_code c_eWhat c_eSign m_bank m_rb m_codes m_within m_piled m_unitsInRule m_askStrand m_askTied m_thoughtClaim m_thoughtNeed m_thoughtAll c_roundOf m_acts m_undone m_laid m_firstMove m_seens m_time m_waysNow m_fitting f hT _) (cwV 0 hts gX9_readStrand_X9_here rfl rfl rfl (by decide +kernel) ⟨Nat.le_of_ble_eq_true rfl, Nat.le_of_ble_eq_true rfl⟩) (by decide) 9 e173 rfl rfl hl.1 rfl (Nat.le_of_ble_eq_true rfl) dX9_readStrand_25 ⟨Nat.le_of_ble_eq_true rfl, Nat.le_of_ble_eq_true rfl⟩ (fun r g H locs hw hP hD hS => ?_)
  obtain ⟨hrs, rfl⟩ := hw
  obtain ⟨x180, rfl⟩ : ∃ q, q = r := ⟨_, rfl⟩
  have h181 := hrs
  refine tVI (As := [.int x180]) (rest := [.int x179, .ref (ad 158)]) (i := 148) ⟨hx, hb, hml, hown, hts⟩ hK hE hP hD hS hA hAB (s_X9_known_0 l B0 adK adV D cy ad fr0 c_text m_taped m_size m_faultKind m_faultPlace m_at m_end m_token m_number m_name c_points c_strands c_units c_told c_ruleFrom c_ruleTo c_code c_eWhat c_eSign m_bank m_rb m_codes m_within m_piled m_unitsInRule m_askStrand m_askTied m_thoughtClaim m_thoughtNeed m_thoughtAll c_roundOf m_acts m_undone m_laid m_firstMove m_seens m_time m_waysNow m_fitting f hT x180 (by omega) (by omega) (by omega) _) (cwV 1 hts gX9_readStrand_X9_known rfl rfl rfl (by decide +kernel) ⟨Nat.le_of_ble_eq_true rfl, Nat.le_of_ble_eq_true rfl⟩) (by decide) 9 e173 rfl rfl hl.1 rfl (Nat.le_of_ble_eq_true rfl) dX9_readStrand_28 ⟨Nat.le_of_ble_eq_true rfl, Nat.le_of_ble_eq_true rfl⟩ (fun r f H locs hw hP hD hS => ?_)
  obtain ⟨hrs, x182, x183, x184, x185, x186, x187, y188, hT, h189, h190, h191⟩ := hw
  obtain ⟨x192, rfl⟩ : ∃ q, q = r := ⟨_, rfl⟩
  have h193 := hrs
  obtain ⟨g196, e194, h195⟩ := (show okIr cy 24 (0) (9) 1 0 (f 158) from hT.1 158 (by decide))
  refine va_iast hx hb hK hP hD hS 158 0 (wl_at (by decide) e194) rfl (vp_in_iff.mpr ⟨by omega, by omega⟩) dX9_readStrand_31 (fun H locs hP hD hS => ?_)
  obtain ⟨f, hT, hP, hD, e197, hj198⟩ := stU (by decide) (TYm.up hT (by decide) (show OKm ad cy c_text m_taped m_size x182 x183 x184 x185 x186 x187 y188 c_points c_strands c_units c_told c_ruleFrom c_ruleTo c_code c_eWhat c_eSign m_bank m_rb m_codes m_within m_piled m_unitsInRule m_askStrand m_askTied m_thoughtClaim m_thoughtNeed m_thoughtAll c_roundOf m_acts m_undone m_laid m_firstMove m_seens m_time m_waysNow m_fitting 158 _ from (show okIr cy 24 (0) (9) 1 0 _ from ⟨_, rfl, upd_r h195 (fun _ => by omega)⟩))) hP hD
  refine lv_aload_n hx hb dX9_readStrand_32 rfl (lv_at hl 1 rfl) ?_
  obtain ⟨e214, h199, h200, h201, h202, h203, h204, h205, h206, h207, h208, h209, h210, h211, h212, h213⟩ := (show okX9 ad m_taped m_size x182 x183 x184 x185 x186 x187 y188 m_bank m_rb m_codes m_within m_piled m_unitsInRule m_askStrand m_askTied m_thoughtClaim m_thoughtNeed m_thoughtAll m_acts m_undone m_laid m_firstMove m_seens m_time m_waysNow m_fitting 148 (f 148) from hT.1 148 (by decide))
  refine tVI (As := []) (rest := []) (i := 148) ⟨hx, hb, hml, hown, hts⟩ hK hE hP hD hS hA hAB (s_X9_isGood_0 l B0 adK adV D cy ad fr0 c_text m_taped m_size x182 x183 x184 x185 x186 x187 y188 c_points c_strands c_units c_told c_ruleFrom c_ruleTo c_code c_eWhat c_eSign m_bank m_rb m_codes m_within m_piled m_unitsInRule m_askStrand m_askTied m_thoughtClaim m_thoughtNeed m_thoughtAll c_roundOf m_acts m_undone m_laid m_firstMove m_seens m_time m_waysNow m_fitting f hT _) (cwV 0 hts gX9_readStrand_X9_isGood rfl rfl rfl (by decide +kernel) ⟨Nat.le_of_ble_eq_true rfl, Nat.le_of_ble_eq_true rfl⟩) (by decide) 9 e214 rfl rfl hl.1 rfl (Nat.le_of_ble_eq_true rfl) dX9_readStrand_33 ⟨Nat.le_of_ble_eq_true rfl, Nat.le_of_ble_eq_true rfl⟩ (fun r g H locs hw hP hD hS => ?_)
  obtain ⟨hrs, rfl⟩ := hw
  obtain ⟨x215, rfl⟩ : ∃ q, q = r := ⟨_, rfl⟩
  rcases hrs with ⟨rfl, h216⟩ | ⟨rfl, h217⟩
  · refine lv_if_ne (tgt := 40) hx hb dX9_readStrand_36 (by decide) (fun _ => ?_) (fun c => absurd c (by decide))
    refine lv_aload_n hx hb dX9_readStrand_40 rfl (lv_at hl 1 rfl) ?_
    refine tVI (As := []) (rest := []) (i := 148) ⟨hx, hb, hml, hown, hts⟩ hK hE hP hD hS hA hAB (s_X9_here_0 l B0 adK adV D cy ad fr0 c_text m_taped m_size x182 x183 x184 x185 x186 x187 y188 c_points c_strands c_units c_told c_ruleFrom c_ruleTo c_code c_eWhat c_eSign m_bank m_rb m_codes m_within m_piled m_unitsInRule m_askStrand m_askTied m_thoughtClaim m_thoughtNeed m_thoughtAll c_roundOf m_acts m_undone m_laid m_firstMove m_seens m_time m_waysNow m_fitting f hT _) (cwV 0 hts gX9_readStrand_X9_here rfl rfl rfl (by decide +kernel) ⟨Nat.le_of_ble_eq_true rfl, Nat.le_of_ble_eq_true rfl⟩) (by decide) 9 e214 rfl rfl hl.1 rfl (Nat.le_of_ble_eq_true rfl) dX9_readStrand_41 ⟨Nat.le_of_ble_eq_true rfl, Nat.le_of_ble_eq_true rfl⟩ (fun r g H locs hw hP hD hS => ?_)
    obtain ⟨hrs, rfl⟩ := hw
    obtain ⟨x218, rfl⟩ : ∃ q, q = r := ⟨_, rfl⟩
    have h219 := hrs
    refine lv_istore_n (lv' := [(2, .int x218), (1, .int x179), (0, .ref (ad 148))]) hx hb dX9_readStrand_44 rfl hl (by decide) rfl (fun ls hl => ?_)
    refine lv_iload_n hx hb dX9_readStrand_45 rfl (lv_at hl 0 rfl) ?_
    have ttl_0 := tl_0
    refine lv_if_lt (tgt := 80) hx hb dX9_readStrand_46 (by decide) (fun c220 => ?_) (fun c220 => ?_)
    · have kc220 := c_lt c220
      exact j80 f H locs ls x218 x179 x182 x183 x184 x185 x186 x187 y188 (by omega) (by omega) (by omega) (by omega) (by omega) (by omega) hT hP hD hS (lv_sub hl [0, 1, 2] rfl)
    · have kc220 := c_nlt c220
      refine lv_iload_n hx hb dX9_readStrand_49 rfl (lv_at hl 0 rfl) ?_
      refine lv_aload_n hx hb dX9_readStrand_50 rfl (lv_at hl 2 rfl) ?_
      refine va_get (D := D) (cl := vwCl) (ci := 9) (v := .ref (ad 158)) (C := RX9) (T := TX9) (N := 64) hx hb hts in_X9_readStrand_X9 hown hK hP 148 (wl_at (by decide) e214) rfl 18 (by decide) (hts (.fieldLink RX9 42 "EightReasonsModel" "from" "[I") (List.mem_of_getElem? (i := 3) rfl)) (fun _ h9 => h9) rfl dX9_readStrand_51 ?_
      refine lv_iload_n hx hb dX9_readStrand_54 rfl (lv_at hl 1 rfl) ?_
      obtain ⟨g223, e221, h222⟩ := (show okIr cy 24 (0) (9) 1 0 (f 158) from hT.1 158 (by decide))
      refine va_iald hx hb hK hP 158 0 (wl_at (by decide) e221) rfl (vp_in_iff.mpr ⟨by omega, by omega⟩) dX9_readStrand_55 ?_
      refine lv_topi (fun x224 ex224 => ?_)
      have hx224 := r_el (h222 _ (Nat.mod_one _)) ex224
      refine lv_icmp_eq (tgt := 76) hx hb dX9_readStrand_56 (by decide) (fun c225 => ?_) (fun c225 => ?_)
      · have kc225 := c_eq c225
        exact j76 f H locs ls x218 x179 x182 x183 x184 x185 x186 x187 y188 (by omega) (by omega) (by omega) (by omega) (by omega) (by omega) hT hP hD hS (lv_sub hl [0, 1, 2] rfl)
      · have kc225 := c_ne c225
        refine lv_aload_n hx hb dX9_readStrand_59 rfl (lv_at hl 2 rfl) ?_
        refine va_get (D := D) (cl := vwCl) (ci := 9) (v := .ref (ad 157)) (C := RX9) (T := TX9) (N := 64) hx hb hts in_X9_readStrand_X9 hown hK hP 148 (wl_at (by decide) e214) rfl 17 (by decide) (hts (.fieldLink RX9 39 "EightReasonsModel" "needs" "[I") (List.mem_of_getElem? (i := 4) rfl)) (fun _ h9 => h9) rfl dX9_readStrand_60 ?_
        refine lv_bipush (v := 10) hx hb dX9_readStrand_63 (by decide) ?_
        refine lv_aload_n hx hb dX9_readStrand_65 rfl (lv_at hl 2 rfl) ?_
        refine va_get (D := D) (cl := vwCl) (ci := 9) (v := .int m_rb) (C := RX9) (T := TX9) (N := 64) hx hb hts in_X9_readStrand_X9 hown hK hP 148 (wl_at (by decide) e214) rfl 30 (by decide) (hts (.fieldLink RX9 230 "EightReasonsModel" "rb" "I") (List.mem_of_getElem? (i := 1) rfl)) (fun _ h9 => h9) rfl dX9_readStrand_66 ?_
        refine lv_imul hx hb dX9_readStrand_69 ?_
        refine lv_topi (fun x226 ex226 => ?_)
        have hx226 := r_mull ex226 tl_10 (by omega) (by omega)
        refine lv_iload_n hx hb dX9_readStrand_70 rfl (lv_at hl 0 rfl) ?_
        refine lv_iadd hx hb dX9_readStrand_71 ?_
        refine lv_topi (fun x227 ex227 => ?_)
        have hx227 := r_add ex227 (by omega) (by omega)
        obtain ⟨g229, e228⟩ := (show okI cy 20 (f 157) from hT.1 157 (by decide))
        refine va_iald hx hb hK hP 157 0 (wl_at (by decide) e228) rfl (vp_in_iff.mpr ⟨by omega, by omega⟩) dX9_readStrand_72 ?_
        refine lv_topi (fun x230 ex230 => ?_)
        refine lv_if_ne (tgt := 80) hx hb dX9_readStrand_73 (by decide) (fun c231 => ?_) (fun c231 => ?_)
        · have kc231 := c_ne c231
          exact j80 f H locs ls x218 x179 x182 x183 x184 x185 x186 x187 y188 (by omega) (by omega) (by omega) (by omega) (by omega) (by omega) hT hP hD hS (lv_sub hl [0, 1, 2] rfl)
        · have kc231 := c_eq c231
          exact j76 f H locs ls x218 x179 x182 x183 x184 x185 x186 x187 y188 (by omega) (by omega) (by omega) (by omega) (by omega) (by omega) hT hP hD hS (lv_sub hl [0, 1, 2] rfl)
  · refine lv_if_ne (tgt := 40) hx hb dX9_readStrand_36 (by decide) (fun c => absurd (by decide) c) (fun _ => ?_)
    exact tV hx hb hr hlk hP hS ⟨trivial, ⟨x182, x183, x184, x185, x186, x187, y188, c_strands, hT, by omega, by omega, by omega⟩⟩ dX9_readStrand_39
set_option maxHeartbeats 4000000 in
set_option maxRecDepth 100000 in
theorem s_X9_readLine_0 (l : Launch) (B0 : Nat) (adK adV : Nat → Nat) (D : va_G) (cy : Nat → ClassId) (ad : Nat → Nat) (fr0 : Nat → va_E) (c_text : Nat → Int32) (m_taped : Int32) (m_size : Int32) (m_faultKind : Int32) (m_faultPlace : Int32) (m_at : Int32) (m_end : Int32) (m_token : Int32) (m_number : Int32) (m_name : Int64) (c_points : Nat → Int32) (c_strands : Nat → Int32) (c_units : Nat → Int32) (c_told : Nat → Int32) (c_ruleFrom : Nat → Int32) (c_ruleTo : Nat → Int32) (c_code : Nat → Int32) (c_eWhat : Nat → Int32) (c_eSign : Nat → Int32) (m_bank : Int32) (m_rb : Int32) (m_codes : Int32) (m_within : Int32) (m_piled : Int32) (m_unitsInRule : Int32) (m_askStrand : Int32) (m_askTied : Int32) (m_thoughtClaim : Int32) (m_thoughtNeed : Int32) (m_thoughtAll : Int32) (c_roundOf : Nat → Int32) (m_acts : Int32) (m_undone : Int32) (m_laid : Int32) (m_firstMove : Int32) (m_seens : Int32) (m_time : Int32) (m_waysNow : Int32) (m_fitting : Int32) (f : Nat → va_E) (hT : TYm ad cy fr0 c_text m_taped m_size m_faultKind m_faultPlace m_at m_end m_token m_number m_name c_points c_strands c_units c_told c_ruleFrom c_ruleTo c_code c_eWhat c_eSign m_bank m_rb m_codes m_within m_piled m_unitsInRule m_askStrand m_askTied m_thoughtClaim m_thoughtNeed m_thoughtAll c_roundOf m_acts m_undone m_laid m_firstMove m_seens m_time m_waysNow m_fitting f) (hph_m_end : 0 ≤ m_end.toInt ∧ m_end.toInt ≤ 1600) (hh0 : ((m_token.toInt = 0 ∧ m_at.toInt = m_size.toInt ∧ m_end.toInt = m_size.toInt) ∨ (1 ≤ m_token.toInt ∧ m_at.toInt < m_end.toInt ∧ m_end.toInt ≤ m_size.toInt))) (hh1 : (0 ≤ m_rb.toInt ∧ m_rb.toInt ≤ 1)) (hPV : PV c_told c_ruleFrom c_ruleTo c_code m_codes m_rb) (sz : Nat) : TtV l yX9_readLine wsX9_readLine 6 127 [.ref (ad 148)] B0 adK adV D cy ad f sz (fun (g : Nat → va_E) => True ∧ (∃ (m_faultKind' : Int32) (m_faultPlace' : Int32) (m_at' : Int32) (m_end' : Int32) (m_token' : Int32) (m_number' : Int32) (m_name' : Int64) (c_points' : Nat → Int32) (c_strands' : Nat → Int32) (c_units' : Nat → Int32) (c_told' : Nat → Int32) (c_ruleFrom' : Nat → Int32) (c_ruleTo' : Nat → Int32) (c_code' : Nat → Int32) (c_eWhat' : Nat → Int32) (c_eSign' : Nat → Int32) (m_codes' : Int32) (m_within' : Int32) (m_piled' : Int32) (m_unitsInRule' : Int32), TYm ad cy fr0 c_text m_taped m_size m_faultKind' m_faultPlace' m_at' m_end' m_token' m_number' m_name' c_points' c_strands' c_units' c_told' c_ruleFrom' c_ruleTo' c_code' c_eWhat' c_eSign' m_bank m_rb m_codes' m_within' m_piled' m_unitsInRule' m_askStrand m_askTied m_thoughtClaim m_thoughtNeed m_thoughtAll c_roundOf m_acts m_undone m_laid m_firstMove m_seens m_time m_waysNow m_fitting g ∧ (0 ≤ m_end'.toInt ∧ m_end'.toInt ≤ 1600) ∧ ((m_token'.toInt = 0 ∧ m_at'.toInt = m_size.toInt ∧ m_end'.toInt = m_size.toInt) ∨ (1 ≤ m_token'.toInt ∧ m_at'.toInt < m_end'.toInt ∧ m_end'.toInt ≤ m_size.toInt)) ∧ (1 ≤ m_faultKind'.toInt ∨ m_at.toInt < m_at'.toInt) ∧ m_at.toInt ≤ m_at'.toInt ∧ PV c_told' c_ruleFrom' c_ruleTo' c_code' m_codes' m_rb ∧ FrC c_code c_code' m_rb ∧ Fr1 c_told c_told' m_rb ∧ Fr1 c_ruleFrom c_ruleFrom' m_rb ∧ Fr1 c_ruleTo c_ruleTo' m_rb)) := by
  refine TtV.of (cc := cX9_readLine) (maxL := 3) (own := RX9) (by decide) rfl (Nat.le_of_ble_eq_true rfl) rfl ?_
  intro p e s m below meth c A ls hx hb hr hml hts hown hlk hK hE hP hD hS hA hAB hl
  have hl : lv_has ls 3 [(0, .ref (ad 148))] := hl
  refine st0 (fun H locs hP hS => ?_) hP hS
  have j208 : ∀ (f : Nat → va_E) (H : Heap) (locs : List Loc) (ls : Array Slot) (v208_p_m_faultKind : Int32) (v208_p_m_faultPlace : Int32) (v208_p_m_at : Int32) (v208_p_m_end : Int32) (v208_p_m_token : Int32) (v208_p_m_number : Int32) (v208_p_m_name : Int64) (v208_p_c_points : Nat → Int32) (v208_p_c_strands : Nat → Int32) (v208_p_c_units : Nat → Int32) (v208_p_c_told : Nat → Int32) (v208_p_c_ruleFrom : Nat → Int32) (v208_p_c_ruleTo : Nat → Int32) (v208_p_c_code : Nat → Int32) (v208_p_c_eWhat : Nat → Int32) (v208_p_c_eSign : Nat → Int32) (v208_p_m_codes : Int32) (v208_p_m_within : Int32) (v208_p_m_piled : Int32) (v208_p_m_unitsInRule : Int32), (0 ≤ v208_p_m_end.toInt ∧ v208_p_m_end.toInt ≤ 1600) → (m_at.toInt < v208_p_m_at.toInt) → (PV v208_p_c_told v208_p_c_ruleFrom v208_p_c_ruleTo v208_p_c_code v208_p_m_codes m_rb) → (FrC c_code v208_p_c_code m_rb) → (Fr1 c_told v208_p_c_told m_rb) → (Fr1 c_ruleFrom v208_p_c_ruleFrom m_rb) → (Fr1 c_ruleTo v208_p_c_ruleTo m_rb) → (((v208_p_m_token.toInt = 0 ∧ v208_p_m_at.toInt = m_size.toInt ∧ v208_p_m_end.toInt = m_size.toInt) ∨ (1 ≤ v208_p_m_token.toInt ∧ v208_p_m_at.toInt < v208_p_m_end.toInt ∧ v208_p_m_end.toInt ≤ m_size.toInt))) → (m_at.toInt ≤ v208_p_m_at.toInt) → (TYm ad cy fr0 c_text m_taped m_size v208_p_m_faultKind v208_p_m_faultPlace v208_p_m_at v208_p_m_end v208_p_m_token v208_p_m_number v208_p_m_name v208_p_c_points v208_p_c_strands v208_p_c_units v208_p_c_told v208_p_c_ruleFrom v208_p_c_ruleTo v208_p_c_code v208_p_c_eWhat v208_p_c_eSign m_bank m_rb v208_p_m_codes v208_p_m_within v208_p_m_piled v208_p_m_unitsInRule m_askStrand m_askTied m_thoughtClaim m_thoughtNeed m_thoughtAll c_roundOf m_acts m_undone m_laid m_firstMove m_seens m_time m_waysNow m_fitting f) → (va_P D vwCl (wl ad f) H) → (va_D A (wl ad f)) → (va_S A s.heap H locs) → (lv_has ls 3 [(1, .long m_name), (0, .ref (ad 148))]) → W p l e (rmO 6 127 0 0) s m ([.ref (ad 148)] : List Value).toArray below meth c H locs 0 0 (MQ below (va_Qv (fun (g : Nat → va_E) => True ∧ (∃ (m_faultKind' : Int32) (m_faultPlace' : Int32) (m_at' : Int32) (m_end' : Int32) (m_token' : Int32) (m_number' : Int32) (m_name' : Int64) (c_points' : Nat → Int32) (c_strands' : Nat → Int32) (c_units' : Nat → Int32) (c_told' : Nat → Int32) (c_ruleFrom' : Nat → Int32) (c_ruleTo' : Nat → Int32) (c_code' : Nat → Int32) (c_eWhat' : Nat → Int32) (c_eSign' : Nat → Int32) (m_codes' : Int32) (m_within' : Int32) (m_piled' : Int32) (m_unitsInRule' : Int32), TYm ad cy fr0 c_text m_taped m_size m_faultKind' m_faultPlace' m_at' m_end' m_token' m_number' m_name' c_points' c_strands' c_units' c_told' c_ruleFrom' c_ruleTo' c_code' c_eWhat' c_eSign' m_bank m_rb m_codes' m_within' m_piled' m_unitsInRule' m_askStrand m_askTied m_thoughtClaim m_thoughtNeed m_thoughtAll c_roundOf m_acts m_undone m_laid m_firstMove m_seens m_time m_waysNow m_fitting g ∧ (0 ≤ m_end'.toInt ∧ m_end'.toInt ≤ 1600) ∧ ((m_token'.toInt = 0 ∧ m_at'.toInt = m_size.toInt ∧ m_end'.toInt = m_size.toInt) ∨ (1 ≤ m_token'.toInt ∧ m_at'.toInt < m_end'.toInt ∧ m_end'.toInt ≤ m_size.toInt)) ∧ (1 ≤ m_faultKind'.toInt ∨ m_at.toInt < m_at'.toInt) ∧ m_at.toInt ≤ m_at'.toInt ∧ PV c_told' c_ruleFrom' c_ruleTo' c_code' m_codes' m_rb ∧ FrC c_code c_code' m_rb ∧ Fr1 c_told c_told' m_rb ∧ Fr1 c_ruleFrom c_ruleFrom' m_rb ∧ Fr1 c_ruleTo c_ruleTo' m_rb)) (fun g t => PstT D ad g t) A) ([.ref (ad 148)] : List Value).toArray s 0 0 A) (F0 m 208 ls []) := by
    intro f H locs ls v208_p_m_faultKind v208_p_m_faultPlace v208_p_m_at v208_p_m_end v208_p_m_token v208_p_m_number v208_p_m_name v208_p_c_points v208_p_c_strands v208_p_c_units v208_p_c_told v208_p_c_ruleFrom v208_p_c_ruleTo v208_p_c_code v208_p_c_eWhat v208_p_c_eSign v208_p_m_codes v208_p_m_within v208_p_m_piled v208_p_m_unitsInRule hv208_p_m_end hJ208_0 hPV hFr hF_told hF_ruleFrom hF_ruleTo hJ208_6 hJ208_7 hT hP hD hS hl
    refine lv_aload_n hx hb dX9_readLine_208 rfl (lv_at hl 1 rfl) ?_
    refine lv_aload_n hx hb dX9_readLine_209 rfl (lv_at hl 1 rfl) ?_
    refine lv_bipush (v := 59) hx hb dX9_readLine_210 (by decide) ?_
    have ttl_59 := tl_59
    obtain ⟨e16, h1, h2, h3, h4, h5, h6, h7, h8, h9, h10, h11, h12, h13, h14, h15⟩ := (show okX9 ad m_taped m_size v208_p_m_faultKind v208_p_m_faultPlace v208_p_m_at v208_p_m_end v208_p_m_token v208_p_m_number v208_p_m_name m_bank m_rb v208_p_m_codes v208_p_m_within v208_p_m_piled v208_p_m_unitsInRule m_askStrand m_askTied m_thoughtClaim m_thoughtNeed m_thoughtAll m_acts m_undone m_laid m_firstMove m_seens m_time m_waysNow m_fitting 148 (f 148) from hT.1 148 (by decide))
    refine tVI (As := [.int 59]) (rest := [.ref (ad 148)]) (i := 148) ⟨hx, hb, hml, hown, hts⟩ hK hE hP hD hS hA hAB (s_X9_isSignHere_0 l B0 adK adV D cy ad fr0 c_text m_taped m_size v208_p_m_faultKind v208_p_m_faultPlace v208_p_m_at v208_p_m_end v208_p_m_token v208_p_m_number v208_p_m_name v208_p_c_points v208_p_c_strands v208_p_c_units v208_p_c_told v208_p_c_ruleFrom v208_p_c_ruleTo v208_p_c_code v208_p_c_eWhat v208_p_c_eSign m_bank m_rb v208_p_m_codes v208_p_m_within v208_p_m_piled v208_p_m_unitsInRule m_askStrand m_askTied m_thoughtClaim m_thoughtNeed m_thoughtAll c_roundOf m_acts m_undone m_laid m_firstMove m_seens m_time m_waysNow m_fitting f hT (59 : Int32) (by omega) _) (cwV 1 hts gX9_readLine_X9_isSignHere rfl rfl rfl (by decide +kernel) ⟨Nat.le_of_ble_eq_true rfl, Nat.le_of_ble_eq_true rfl⟩) (by decide) 9 e16 rfl rfl hl.1 rfl (Nat.le_of_ble_eq_true rfl) dX9_readLine_212 ⟨Nat.le_of_ble_eq_true rfl, Nat.le_of_ble_eq_true rfl⟩ (fun r g H locs hw hP hD hS => ?_)
    obtain ⟨hrs, rfl⟩ := hw
    obtain ⟨x17, rfl⟩ : ∃ q, q = r := ⟨_, rfl⟩
    rcases hrs with ⟨rfl, h18, h19⟩ | rfl
    · have ttl_1 := tl_1
      refine tVV (As := [.int 1]) (rest := []) (i := 148) ⟨hx, hb, hml, hown, hts⟩ hK hE hP hD hS hA hAB (s_X9_must_0 l B0 adK adV D cy ad fr0 c_text m_taped m_size v208_p_m_faultKind v208_p_m_faultPlace v208_p_m_at v208_p_m_end v208_p_m_token v208_p_m_number v208_p_m_name v208_p_c_points v208_p_c_strands v208_p_c_units v208_p_c_told v208_p_c_ruleFrom v208_p_c_ruleTo v208_p_c_code v208_p_c_eWhat v208_p_c_eSign m_bank m_rb v208_p_m_codes v208_p_m_within v208_p_m_piled v208_p_m_unitsInRule m_askStrand m_askTied m_thoughtClaim m_thoughtNeed m_thoughtAll c_roundOf m_acts m_undone m_laid m_firstMove m_seens m_time m_waysNow m_fitting f hT (1 : Int32) (by omega) (by omega) (by omega) _) (cwV 1 hts gX9_readLine_X9_must rfl rfl rfl (by decide +kernel) ⟨Nat.le_of_ble_eq_true rfl, Nat.le_of_ble_eq_true rfl⟩) (by decide) 9 e16 rfl rfl hl.1 rfl (Nat.le_of_ble_eq_true rfl) dX9_readLine_215 ⟨Nat.le_of_ble_eq_true rfl, Nat.le_of_ble_eq_true rfl⟩ (fun f H locs hw hP hD hS => ?_)
      obtain ⟨hrs, x20, x21, x22, x23, x24, x25, y26, hT, h27, h28, h29⟩ := hw
      exact tV hx hb hr hlk hP hS ⟨trivial, ⟨x20, x21, x22, x23, x24, x25, y26, v208_p_c_points, v208_p_c_strands, v208_p_c_units, v208_p_c_told, v208_p_c_ruleFrom, v208_p_c_ruleTo, v208_p_c_code, v208_p_c_eWhat, v208_p_c_eSign, v208_p_m_codes, v208_p_m_within, v208_p_m_piled, v208_p_m_unitsInRule, hT, by omega, by omega, by omega, by omega, hPV, hFr, hF_told, hF_ruleFrom, hF_ruleTo⟩⟩ dX9_readLine_218
    · have ttl_0 := tl_0
      refine tVV (As := [.int 0]) (rest := []) (i := 148) ⟨hx, hb, hml, hown, hts⟩ hK hE hP hD hS hA hAB (s_X9_must_0 l B0 adK adV D cy ad fr0 c_text m_taped m_size v208_p_m_faultKind v208_p_m_faultPlace v208_p_m_at v208_p_m_end v208_p_m_token v208_p_m_number v208_p_m_name v208_p_c_points v208_p_c_strands v208_p_c_units v208_p_c_told v208_p_c_ruleFrom v208_p_c_ruleTo v208_p_c_code v208_p_c_eWhat v208_p_c_eSign m_bank m_rb v208_p_m_codes v208_p_m_within v208_p_m_piled v208_p_m_unitsInRule m_askStrand m_askTied m_thoughtClaim m_thoughtNeed m_thoughtAll c_roundOf m_acts m_undone m_laid m_firstMove m_seens m_time m_waysNow m_fitting f hT (0 : Int32) (by omega) (by omega) (by omega) _) (cwV 1 hts gX9_readLine_X9_must rfl rfl rfl (by decide +kernel) ⟨Nat.le_of_ble_eq_true rfl, Nat.le_of_ble_eq_true rfl⟩) (by decide) 9 e16 rfl rfl hl.1 rfl (Nat.le_of_ble_eq_true rfl) dX9_readLine_215 ⟨Nat.le_of_ble_eq_true rfl, Nat.le_of_ble_eq_true rfl⟩ (fun f H locs hw hP hD hS => ?_)
      obtain ⟨hrs, x30, x31, x32, x33, x34, x35, y36, hT, h37, h38, h39⟩ := hw
      exact tV hx hb hr hlk hP hS ⟨trivial, ⟨x30, x31, x32, x33, x34, x35, y36, v208_p_c_points, v208_p_c_strands, v208_p_c_units, v208_p_c_told, v208_p_c_ruleFrom, v208_p_c_ruleTo, v208_p_c_code, v208_p_c_eWhat, v208_p_c_eSign, v208_p_m_codes, v208_p_m_within, v208_p_m_piled, v208_p_m_unitsInRule, hT, by omega, by omega, by omega, by omega, hPV, hFr, hF_told, hF_ruleFrom, hF_ruleTo⟩⟩ dX9_readLine_218
  have j183 : ∀ (f : Nat → va_E) (H : Heap) (locs : List Loc) (ls : Array Slot) (v183_p_m_faultKind : Int32) (v183_p_m_faultPlace : Int32) (v183_p_m_at : Int32) (v183_p_m_end : Int32) (v183_p_m_token : Int32) (v183_p_m_number : Int32) (v183_p_m_name : Int64) (v183_p_c_points : Nat → Int32) (v183_p_c_strands : Nat → Int32) (v183_p_c_units : Nat → Int32) (v183_p_c_told : Nat → Int32) (v183_p_c_ruleFrom : Nat → Int32) (v183_p_c_ruleTo : Nat → Int32) (v183_p_c_code : Nat → Int32) (v183_p_c_eWhat : Nat → Int32) (v183_p_c_eSign : Nat → Int32) (v183_p_m_codes : Int32) (v183_p_m_within : Int32) (v183_p_m_piled : Int32) (v183_p_m_unitsInRule : Int32), (0 ≤ v183_p_m_end.toInt ∧ v183_p_m_end.toInt ≤ 1600) → (m_at.toInt < v183_p_m_at.toInt) → (PV v183_p_c_told v183_p_c_ruleFrom v183_p_c_ruleTo v183_p_c_code v183_p_m_codes m_rb) → (FrC c_code v183_p_c_code m_rb) → (Fr1 c_told v183_p_c_told m_rb) → (Fr1 c_ruleFrom v183_p_c_ruleFrom m_rb) → (Fr1 c_ruleTo v183_p_c_ruleTo m_rb) → (((v183_p_m_token.toInt = 0 ∧ v183_p_m_at.toInt = m_size.toInt ∧ v183_p_m_end.toInt = m_size.toInt) ∨ (1 ≤ v183_p_m_token.toInt ∧ v183_p_m_at.toInt < v183_p_m_end.toInt ∧ v183_p_m_end.toInt ≤ m_size.toInt))) → (m_at.toInt ≤ v183_p_m_at.toInt) → (TYm ad cy fr0 c_text m_taped m_size v183_p_m_faultKind v183_p_m_faultPlace v183_p_m_at v183_p_m_end v183_p_m_token v183_p_m_number v183_p_m_name v183_p_c_points v183_p_c_strands v183_p_c_units v183_p_c_told v183_p_c_ruleFrom v183_p_c_ruleTo v183_p_c_code v183_p_c_eWhat v183_p_c_eSign m_bank m_rb v183_p_m_codes v183_p_m_within v183_p_m_piled v183_p_m_unitsInRule m_askStrand m_askTied m_thoughtClaim m_thoughtNeed m_thoughtAll c_roundOf m_acts m_undone m_laid m_firstMove m_seens m_time m_waysNow m_fitting f) → (va_P D vwCl (wl ad f) H) → (va_D A (wl ad f)) → (va_S A s.heap H locs) → (lv_has ls 3 [(1, .long m_name), (0, .ref (ad 148))]) → W p l e (rmO 6 127 0 0) s m ([.ref (ad 148)] : List Value).toArray below meth c H locs 0 0 (MQ below (va_Qv (fun (g : Nat → va_E) => True ∧ (∃ (m_faultKind' : Int32) (m_faultPlace' : Int32) (m_at' : Int32) (m_end' : Int32) (m_token' : Int32) (m_number' : Int32) (m_name' : Int64) (c_points' : Nat → Int32) (c_strands' : Nat → Int32) (c_units' : Nat → Int32) (c_told' : Nat → Int32) (c_ruleFrom' : Nat → Int32) (c_ruleTo' : Nat → Int32) (c_code' : Nat → Int32) (c_eWhat' : Nat → Int32) (c_eSign' : Nat → Int32) (m_codes' : Int32) (m_within' : Int32) (m_piled' : Int32) (m_unitsInRule' : Int32), TYm ad cy fr0 c_text m_taped m_size m_faultKind' m_faultPlace' m_at' m_end' m_token' m_number' m_name' c_points' c_strands' c_units' c_told' c_ruleFrom' c_ruleTo' c_code' c_eWhat' c_eSign' m_bank m_rb m_codes' m_within' m_piled' m_unitsInRule' m_askStrand m_askTied m_thoughtClaim m_thoughtNeed m_thoughtAll c_roundOf m_acts m_undone m_laid m_firstMove m_seens m_time m_waysNow m_fitting g ∧ (0 ≤ m_end'.toInt ∧ m_end'.toInt ≤ 1600) ∧ ((m_token'.toInt = 0 ∧ m_at'.toInt = m_size.toInt ∧ m_end'.toInt = m_size.toInt) ∨ (1 ≤ m_token'.toInt ∧ m_at'.toInt < m_end'.toInt ∧ m_end'.toInt ≤ m_size.toInt)) ∧ (1 ≤ m_faultKind'.toInt ∨ m_at.toInt < m_at'.toInt) ∧ m_at.toInt ≤ m_at'.toInt ∧ PV c_told' c_ruleFrom' c_ruleTo' c_code' m_codes' m_rb ∧ FrC c_code c_code' m_rb ∧ Fr1 c_told c_told' m_rb ∧ Fr1 c_ruleFrom c_ruleFrom' m_rb ∧ Fr1 c_ruleTo c_ruleTo' m_rb)) (fun g t => PstT D ad g t) A) ([.ref (ad 148)] : List Value).toArray s 0 0 A) (F0 m 183 ls []) := by
    intro f H locs ls v183_p_m_faultKind v183_p_m_faultPlace v183_p_m_at v183_p_m_end v183_p_m_token v183_p_m_number v183_p_m_name v183_p_c_points v183_p_c_strands v183_p_c_units v183_p_c_told v183_p_c_ruleFrom v183_p_c_ruleTo v183_p_c_code v183_p_c_eWhat v183_p_c_eSign v183_p_m_codes v183_p_m_within v183_p_m_piled v183_p_m_unitsInRule hv183_p_m_end hJ183_0 hPV hFr hF_told hF_ruleFrom hF_ruleTo hJ183_6 hJ183_7 hT hP hD hS hl
    refine lv_lload_n hx hb dX9_readLine_183 rfl (lv_at hl 0 rfl) ?_
    have ttlj_1685217655 := tlj_1685217655
    refine lv_ldc2 (v := 1685217655) hx hb hown (hts (.constantLong RX9 157 (1685217655)) (List.mem_of_getElem? (i := 14) rfl)) dX9_readLine_184 ?_
    refine lvcmp hx hb dX9_readLine_187 (fun x40 hx40 => ?_)
    have ttl_0 := tl_0
    refine lv_if_ne (tgt := 208) hx hb dX9_readLine_188 (by decide) (fun c41 => ?_) (fun c41 => ?_)
    · have kc41 := c_ne c41
      obtain ⟨e57, h42, h43, h44, h45, h46, h47, h48, h49, h50, h51, h52, h53, h54, h55, h56⟩ := (show okX9 ad m_taped m_size v183_p_m_faultKind v183_p_m_faultPlace v183_p_m_at v183_p_m_end v183_p_m_token v183_p_m_number v183_p_m_name m_bank m_rb v183_p_m_codes v183_p_m_within v183_p_m_piled v183_p_m_unitsInRule m_askStrand m_askTied m_thoughtClaim m_thoughtNeed m_thoughtAll m_acts m_undone m_laid m_firstMove m_seens m_time m_waysNow m_fitting 148 (f 148) from hT.1 148 (by decide))
      exact j208 f H locs ls v183_p_m_faultKind v183_p_m_faultPlace v183_p_m_at v183_p_m_end v183_p_m_token v183_p_m_number v183_p_m_name v183_p_c_points v183_p_c_strands v183_p_c_units v183_p_c_told v183_p_c_ruleFrom v183_p_c_ruleTo v183_p_c_code v183_p_c_eWhat v183_p_c_eSign v183_p_m_codes v183_p_m_within v183_p_m_piled v183_p_m_unitsInRule (by omega) (by omega) (hPV) (hFr) (hF_told) (hF_ruleFrom) (hF_ruleTo) (by omega) (by omega) hT hP hD hS (lv_sub hl [0, 1] rfl)
    · have kc41 := c_eq c41
      refine lv_aload_n hx hb dX9_readLine_191 rfl (lv_at hl 1 rfl) ?_
      obtain ⟨e73, h58, h59, h60, h61, h62, h63, h64, h65, h66, h67, h68, h69, h70, h71, h72⟩ := (show okX9 ad m_taped m_size v183_p_m_faultKind v183_p_m_faultPlace v183_p_m_at v183_p_m_end v183_p_m_token v183_p_m_number v183_p_m_name m_bank m_rb v183_p_m_codes v183_p_m_within v183_p_m_piled v183_p_m_unitsInRule m_askStrand m_askTied m_thoughtClaim m_thoughtNeed m_thoughtAll m_acts m_undone m_laid m_firstMove m_seens m_time m_waysNow m_fitting 148 (f 148) from hT.1 148 (by decide))
      refine va_get (D := D) (cl := vwCl) (ci := 9) (v := .ref (ad 155)) (C := RX9) (T := TX9) (N := 64) hx hb hts in_X9_readLine_X9 hown hK hP 148 (wl_at (by decide) e73) rfl 15 (by decide) (hts (.fieldLink RX9 33 "EightReasonsModel" "draw" "[I") (List.mem_of_getElem? (i := 15) rfl)) (fun _ h9 => h9) rfl dX9_readLine_192 ?_
      refine lv_aload_n hx hb dX9_readLine_195 rfl (lv_at hl 1 rfl) ?_
      refine va_get (D := D) (cl := vwCl) (ci := 9) (v := .int m_rb) (C := RX9) (T := TX9) (N := 64) hx hb hts in_X9_readLine_X9 hown hK hP 148 (wl_at (by decide) e73) rfl 30 (by decide) (hts (.fieldLink RX9 230 "EightReasonsModel" "rb" "I") (List.mem_of_getElem? (i := 6) rfl)) (fun _ h9 => h9) rfl dX9_readLine_196 ?_
      refine lv_aload_n hx hb dX9_readLine_199 rfl (lv_at hl 1 rfl) ?_
      refine lv_iconst (v := 2) hx hb dX9_readLine_200 (by decide) ?_
      refine lv_sipush (v := 999) hx hb dX9_readLine_201 (by decide) ?_
      have ttl_2 := tl_2
      have ttl_999 := tl_999
      refine tVI (As := [.int 2, .int 999]) (rest := [.int m_rb, .ref (ad 155)]) (i := 148) ⟨hx, hb, hml, hown, hts⟩ hK hE hP hD hS hA hAB (s_X9_once_1 l B0 adK adV D cy ad fr0 c_text m_taped m_size v183_p_m_faultKind v183_p_m_faultPlace v183_p_m_at v183_p_m_end v183_p_m_token v183_p_m_number v183_p_m_name v183_p_c_points v183_p_c_strands v183_p_c_units v183_p_c_told v183_p_c_ruleFrom v183_p_c_ruleTo v183_p_c_code v183_p_c_eWhat v183_p_c_eSign m_bank m_rb v183_p_m_codes v183_p_m_within v183_p_m_piled v183_p_m_unitsInRule m_askStrand m_askTied m_thoughtClaim m_thoughtNeed m_thoughtAll c_roundOf m_acts m_undone m_laid m_firstMove m_seens m_time m_waysNow m_fitting f hT (999 : Int32) (by omega) (by omega) (by omega) _) (cwV 2 hts gX9_readLine_X9_once rfl rfl rfl (by decide +kernel) ⟨Nat.le_of_ble_eq_true rfl, Nat.le_of_ble_eq_true rfl⟩) (by decide) 9 e73 rfl rfl hl.1 rfl (Nat.le_of_ble_eq_true rfl) dX9_readLine_204 ⟨Nat.le_of_ble_eq_true rfl, Nat.le_of_ble_eq_true rfl⟩ (fun r f H locs hw hP hD hS => ?_)
      obtain ⟨hrs, x74, x75, x76, x77, x78, x79, y80, y81, hT, h82, h83, h84, h85, hF_told2⟩ := hw
      obtain ⟨x86, rfl⟩ : ∃ q, q = r := ⟨_, rfl⟩
      have h87 := hrs
      have hF_told := Fr1_tr hF_told hF_told2
      have hPV := PV_bit hPV (by assumption)
      obtain ⟨g89, e88⟩ := (show okI cy 2 (f 155) from hT.1 155 (by decide))
      refine va_iast hx hb hK hP hD hS 155 0 (wl_at (by decide) e88) rfl (vp_in_iff.mpr ⟨by omega, by omega⟩) dX9_readLine_207 (fun H locs hP hD hS => ?_)
      obtain ⟨f, hT, hP, hD, e90, hj91⟩ := stU (by decide) (TYm.up hT (by decide) (show OKm ad cy c_text m_taped m_size x74 x75 x76 x77 x78 x79 y80 v183_p_c_points v183_p_c_strands v183_p_c_units y81 v183_p_c_ruleFrom v183_p_c_ruleTo v183_p_c_code v183_p_c_eWhat v183_p_c_eSign m_bank m_rb v183_p_m_codes v183_p_m_within v183_p_m_piled v183_p_m_unitsInRule m_askStrand m_askTied m_thoughtClaim m_thoughtNeed m_thoughtAll c_roundOf m_acts m_undone m_laid m_firstMove m_seens m_time m_waysNow m_fitting 155 _ from (show okI cy 2 _ from ⟨_, rfl⟩))) hP hD
      obtain ⟨e107, h92, h93, h94, h95, h96, h97, h98, h99, h100, h101, h102, h103, h104, h105, h106⟩ := (show okX9 ad m_taped m_size x74 x75 x76 x77 x78 x79 y80 m_bank m_rb v183_p_m_codes v183_p_m_within v183_p_m_piled v183_p_m_unitsInRule m_askStrand m_askTied m_thoughtClaim m_thoughtNeed m_thoughtAll m_acts m_undone m_laid m_firstMove m_seens m_time m_waysNow m_fitting 148 (f 148) from hT.1 148 (by decide))
      exact j208 f H locs ls x74 x75 x76 x77 x78 x79 y80 v183_p_c_points v183_p_c_strands v183_p_c_units y81 v183_p_c_ruleFrom v183_p_c_ruleTo v183_p_c_code v183_p_c_eWhat v183_p_c_eSign v183_p_m_codes v183_p_m_within v183_p_m_piled v183_p_m_unitsInRule (by omega) (by omega) (hPV) (hFr) (hF_told) (hF_ruleFrom) (hF_ruleTo) (by omega) (by omega) hT hP hD hS (lv_sub hl [0, 1] rfl)
  have j159 : ∀ (f : Nat → va_E) (H : Heap) (locs : List Loc) (ls : Array Slot) (v159_p_m_faultKind : Int32) (v159_p_m_faultPlace : Int32) (v159_p_m_at : Int32) (v159_p_m_end : Int32) (v159_p_m_token : Int32) (v159_p_m_number : Int32) (v159_p_m_name : Int64) (v159_p_c_points : Nat → Int32) (v159_p_c_strands : Nat → Int32) (v159_p_c_units : Nat → Int32) (v159_p_c_told : Nat → Int32) (v159_p_c_ruleFrom : Nat → Int32) (v159_p_c_ruleTo : Nat → Int32) (v159_p_c_code : Nat → Int32) (v159_p_c_eWhat : Nat → Int32) (v159_p_c_eSign : Nat → Int32) (v159_p_m_codes : Int32) (v159_p_m_within : Int32) (v159_p_m_piled : Int32) (v159_p_m_unitsInRule : Int32), (0 ≤ v159_p_m_end.toInt ∧ v159_p_m_end.toInt ≤ 1600) → (m_at.toInt < v159_p_m_at.toInt) → (PV v159_p_c_told v159_p_c_ruleFrom v159_p_c_ruleTo v159_p_c_code v159_p_m_codes m_rb) → (FrC c_code v159_p_c_code m_rb) → (Fr1 c_told v159_p_c_told m_rb) → (Fr1 c_ruleFrom v159_p_c_ruleFrom m_rb) → (Fr1 c_ruleTo v159_p_c_ruleTo m_rb) → (((v159_p_m_token.toInt = 0 ∧ v159_p_m_at.toInt = m_size.toInt ∧ v159_p_m_end.toInt = m_size.toInt) ∨ (1 ≤ v159_p_m_token.toInt ∧ v159_p_m_at.toInt < v159_p_m_end.toInt ∧ v159_p_m_end.toInt ≤ m_size.toInt))) → (m_at.toInt ≤ v159_p_m_at.toInt) → (TYm ad cy fr0 c_text m_taped m_size v159_p_m_faultKind v159_p_m_faultPlace v159_p_m_at v159_p_m_end v159_p_m_token v159_p_m_number v159_p_m_name v159_p_c_points v159_p_c_strands v159_p_c_units v159_p_c_told v159_p_c_ruleFrom v159_p_c_ruleTo v159_p_c_code v159_p_c_eWhat v159_p_c_eSign m_bank m_rb v159_p_m_codes v159_p_m_within v159_p_m_piled v159_p_m_unitsInRule m_askStrand m_askTied m_thoughtClaim m_thoughtNeed m_thoughtAll c_roundOf m_acts m_undone m_laid m_firstMove m_seens m_time m_waysNow m_fitting f) → (va_P D vwCl (wl ad f) H) → (va_D A (wl ad f)) → (va_S A s.heap H locs) → (lv_has ls 3 [(1, .long m_name), (0, .ref (ad 148))]) → W p l e (rmO 6 127 0 0) s m ([.ref (ad 148)] : List Value).toArray below meth c H locs 0 0 (MQ below (va_Qv (fun (g : Nat → va_E) => True ∧ (∃ (m_faultKind' : Int32) (m_faultPlace' : Int32) (m_at' : Int32) (m_end' : Int32) (m_token' : Int32) (m_number' : Int32) (m_name' : Int64) (c_points' : Nat → Int32) (c_strands' : Nat → Int32) (c_units' : Nat → Int32) (c_told' : Nat → Int32) (c_ruleFrom' : Nat → Int32) (c_ruleTo' : Nat → Int32) (c_code' : Nat → Int32) (c_eWhat' : Nat → Int32) (c_eSign' : Nat → Int32) (m_codes' : Int32) (m_within' : Int32) (m_piled' : Int32) (m_unitsInRule' : Int32), TYm ad cy fr0 c_text m_taped m_size m_faultKind' m_faultPlace' m_at' m_end' m_token' m_number' m_name' c_points' c_strands' c_units' c_told' c_ruleFrom' c_ruleTo' c_code' c_eWhat' c_eSign' m_bank m_rb m_codes' m_within' m_piled' m_unitsInRule' m_askStrand m_askTied m_thoughtClaim m_thoughtNeed m_thoughtAll c_roundOf m_acts m_undone m_laid m_firstMove m_seens m_time m_waysNow m_fitting g ∧ (0 ≤ m_end'.toInt ∧ m_end'.toInt ≤ 1600) ∧ ((m_token'.toInt = 0 ∧ m_at'.toInt = m_size.toInt ∧ m_end'.toInt = m_size.toInt) ∨ (1 ≤ m_token'.toInt ∧ m_at'.toInt < m_end'.toInt ∧ m_end'.toInt ≤ m_size.toInt)) ∧ (1 ≤ m_faultKind'.toInt ∨ m_at.toInt < m_at'.toInt) ∧ m_at.toInt ≤ m_at'.toInt ∧ PV c_told' c_ruleFrom' c_ruleTo' c_code' m_codes' m_rb ∧ FrC c_code c_code' m_rb ∧ Fr1 c_told c_told' m_rb ∧ Fr1 c_ruleFrom c_ruleFrom' m_rb ∧ Fr1 c_ruleTo c_ruleTo' m_rb)) (fun g t => PstT D ad g t) A) ([.ref (ad 148)] : List Value).toArray s 0 0 A) (F0 m 159 ls []) := by
    intro f H locs ls v159_p_m_faultKind v159_p_m_faultPlace v159_p_m_at v159_p_m_end v159_p_m_token v159_p_m_number v159_p_m_name v159_p_c_points v159_p_c_strands v159_p_c_units v159_p_c_told v159_p_c_ruleFrom v159_p_c_ruleTo v159_p_c_code v159_p_c_eWhat v159_p_c_eSign v159_p_m_codes v159_p_m_within v159_p_m_piled v159_p_m_unitsInRule hv159_p_m_end hJ159_0 hPV hFr hF_told hF_ruleFrom hF_ruleTo hJ159_6 hJ159_7 hT hP hD hS hl
    refine lv_lload_n hx hb dX9_readLine_159 rfl (lv_at hl 0 rfl) ?_
    have ttlj_1718772089 := tlj_1718772089
    refine lv_ldc2 (v := 1718772089) hx hb hown (hts (.constantLong RX9 155 (1718772089)) (List.mem_of_getElem? (i := 12) rfl)) dX9_readLine_160 ?_
    refine lvcmp hx hb dX9_readLine_163 (fun x108 hx108 => ?_)
    have ttl_0 := tl_0
    refine lv_if_ne (tgt := 183) hx hb dX9_readLine_164 (by decide) (fun c109 => ?_) (fun c109 => ?_)
    · have kc109 := c_ne c109
      obtain ⟨e125, h110, h111, h112, h113, h114, h115, h116, h117, h118, h119, h120, h121, h122, h123, h124⟩ := (show okX9 ad m_taped m_size v159_p_m_faultKind v159_p_m_faultPlace v159_p_m_at v159_p_m_end v159_p_m_token v159_p_m_number v159_p_m_name m_bank m_rb v159_p_m_codes v159_p_m_within v159_p_m_piled v159_p_m_unitsInRule m_askStrand m_askTied m_thoughtClaim m_thoughtNeed m_thoughtAll m_acts m_undone m_laid m_firstMove m_seens m_time m_waysNow m_fitting 148 (f 148) from hT.1 148 (by decide))
      exact j183 f H locs ls v159_p_m_faultKind v159_p_m_faultPlace v159_p_m_at v159_p_m_end v159_p_m_token v159_p_m_number v159_p_m_name v159_p_c_points v159_p_c_strands v159_p_c_units v159_p_c_told v159_p_c_ruleFrom v159_p_c_ruleTo v159_p_c_code v159_p_c_eWhat v159_p_c_eSign v159_p_m_codes v159_p_m_within v159_p_m_piled v159_p_m_unitsInRule (by omega) (by omega) (hPV) (hFr) (hF_told) (hF_ruleFrom) (hF_ruleTo) (by omega) (by omega) hT hP hD hS (lv_sub hl [0, 1] rfl)
    · have kc109 := c_eq c109
      refine lv_aload_n hx hb dX9_readLine_167 rfl (lv_at hl 1 rfl) ?_
      obtain ⟨e141, h126, h127, h128, h129, h130, h131, h132, h133, h134, h135, h136, h137, h138, h139, h140⟩ := (show okX9 ad m_taped m_size v159_p_m_faultKind v159_p_m_faultPlace v159_p_m_at v159_p_m_end v159_p_m_token v159_p_m_number v159_p_m_name m_bank m_rb v159_p_m_codes v159_p_m_within v159_p_m_piled v159_p_m_unitsInRule m_askStrand m_askTied m_thoughtClaim m_thoughtNeed m_thoughtAll m_acts m_undone m_laid m_firstMove m_seens m_time m_waysNow m_fitting 148 (f 148) from hT.1 148 (by decide))
      refine va_get (D := D) (cl := vwCl) (ci := 9) (v := .ref (ad 154)) (C := RX9) (T := TX9) (N := 64) hx hb hts in_X9_readLine_X9 hown hK hP 148 (wl_at (by decide) e141) rfl 14 (by decide) (hts (.fieldLink RX9 30 "EightReasonsModel" "fray" "[I") (List.mem_of_getElem? (i := 13) rfl)) (fun _ h9 => h9) rfl dX9_readLine_168 ?_
      refine lv_aload_n hx hb dX9_readLine_171 rfl (lv_at hl 1 rfl) ?_
      refine va_get (D := D) (cl := vwCl) (ci := 9) (v := .int m_rb) (C := RX9) (T := TX9) (N := 64) hx hb hts in_X9_readLine_X9 hown hK hP 148 (wl_at (by decide) e141) rfl 30 (by decide) (hts (.fieldLink RX9 230 "EightReasonsModel" "rb" "I") (List.mem_of_getElem? (i := 6) rfl)) (fun _ h9 => h9) rfl dX9_readLine_172 ?_
      refine lv_aload_n hx hb dX9_readLine_175 rfl (lv_at hl 1 rfl) ?_
      refine lv_iconst (v := 1) hx hb dX9_readLine_176 (by decide) ?_
      refine lv_bipush (v := 100) hx hb dX9_readLine_177 (by decide) ?_
      have ttl_1 := tl_1
      have ttl_100 := tl_100
      refine tVI (As := [.int 1, .int 100]) (rest := [.int m_rb, .ref (ad 154)]) (i := 148) ⟨hx, hb, hml, hown, hts⟩ hK hE hP hD hS hA hAB (s_X9_once_0 l B0 adK adV D cy ad fr0 c_text m_taped m_size v159_p_m_faultKind v159_p_m_faultPlace v159_p_m_at v159_p_m_end v159_p_m_token v159_p_m_number v159_p_m_name v159_p_c_points v159_p_c_strands v159_p_c_units v159_p_c_told v159_p_c_ruleFrom v159_p_c_ruleTo v159_p_c_code v159_p_c_eWhat v159_p_c_eSign m_bank m_rb v159_p_m_codes v159_p_m_within v159_p_m_piled v159_p_m_unitsInRule m_askStrand m_askTied m_thoughtClaim m_thoughtNeed m_thoughtAll c_roundOf m_acts m_undone m_laid m_firstMove m_seens m_time m_waysNow m_fitting f hT (100 : Int32) (by omega) (by omega) (by omega) _) (cwV 2 hts gX9_readLine_X9_once rfl rfl rfl (by decide +kernel) ⟨Nat.le_of_ble_eq_true rfl, Nat.le_of_ble_eq_true rfl⟩) (by decide) 9 e141 rfl rfl hl.1 rfl (Nat.le_of_ble_eq_true rfl) dX9_readLine_179 ⟨Nat.le_of_ble_eq_true rfl, Nat.le_of_ble_eq_true rfl⟩ (fun r f H locs hw hP hD hS => ?_)
      obtain ⟨hrs, x142, x143, x144, x145, x146, x147, y148, y149, hT, h150, h151, h152, h153, hF_told2⟩ := hw
      obtain ⟨x154, rfl⟩ : ∃ q, q = r := ⟨_, rfl⟩
      have h155 := hrs
      have hF_told := Fr1_tr hF_told hF_told2
      have hPV := PV_bit hPV (by assumption)
      obtain ⟨g157, e156⟩ := (show okI cy 2 (f 154) from hT.1 154 (by decide))
      refine va_iast hx hb hK hP hD hS 154 0 (wl_at (by decide) e156) rfl (vp_in_iff.mpr ⟨by omega, by omega⟩) dX9_readLine_182 (fun H locs hP hD hS => ?_)
      obtain ⟨f, hT, hP, hD, e158, hj159⟩ := stU (by decide) (TYm.up hT (by decide) (show OKm ad cy c_text m_taped m_size x142 x143 x144 x145 x146 x147 y148 v159_p_c_points v159_p_c_strands v159_p_c_units y149 v159_p_c_ruleFrom v159_p_c_ruleTo v159_p_c_code v159_p_c_eWhat v159_p_c_eSign m_bank m_rb v159_p_m_codes v159_p_m_within v159_p_m_piled v159_p_m_unitsInRule m_askStrand m_askTied m_thoughtClaim m_thoughtNeed m_thoughtAll c_roundOf m_acts m_undone m_laid m_firstMove m_seens m_time m_waysNow m_fitting 154 _ from (show okI cy 2 _ from ⟨_, rfl⟩))) hP hD
      obtain ⟨e175, h160, h161, h162, h163, h164, h165, h166, h167, h168, h169, h170, h171, h172, h173, h174⟩ := (show okX9 ad m_taped m_size x142 x143 x144 x145 x146 x147 y148 m_bank m_rb v159_p_m_codes v159_p_m_within v159_p_m_piled v159_p_m_unitsInRule m_askStrand m_askTied m_thoughtClaim m_thoughtNeed m_thoughtAll m_acts m_undone m_laid m_firstMove m_seens m_time m_waysNow m_fitting 148 (f 148) from hT.1 148 (by decide))
      exact j183 f H locs ls x142 x143 x144 x145 x146 x147 y148 v159_p_c_points v159_p_c_strands v159_p_c_units y149 v159_p_c_ruleFrom v159_p_c_ruleTo v159_p_c_code v159_p_c_eWhat v159_p_c_eSign v159_p_m_codes v159_p_m_within v159_p_m_piled v159_p_m_unitsInRule (by omega) (by omega) (hPV) (hFr) (hF_told) (hF_ruleFrom) (hF_ruleTo) (by omega) (by omega) hT hP hD hS (lv_sub hl [0, 1] rfl)
  have j147 : ∀ (f : Nat → va_E) (H : Heap) (locs : List Loc) (ls : Array Slot) (v147_p_m_faultKind : Int32) (v147_p_m_faultPlace : Int32) (v147_p_m_at : Int32) (v147_p_m_end : Int32) (v147_p_m_token : Int32) (v147_p_m_number : Int32) (v147_p_m_name : Int64) (v147_p_c_points : Nat → Int32) (v147_p_c_strands : Nat → Int32), (0 ≤ v147_p_m_end.toInt ∧ v147_p_m_end.toInt ≤ 1600) → ((m_name.toInt = 422607680115 → ¬ (bitF (c_told m_rb.toNatClampNeg) 0).toInt = 1)) → (m_at.toInt < v147_p_m_at.toInt) → (PV c_told c_ruleFrom c_ruleTo c_code m_codes m_rb) → (FrC c_code c_code m_rb) → (Fr1 c_told c_told m_rb) → (Fr1 c_ruleFrom c_ruleFrom m_rb) → (Fr1 c_ruleTo c_ruleTo m_rb) → (((v147_p_m_token.toInt = 0 ∧ v147_p_m_at.toInt = m_size.toInt ∧ v147_p_m_end.toInt = m_size.toInt) ∨ (1 ≤ v147_p_m_token.toInt ∧ v147_p_m_at.toInt < v147_p_m_end.toInt ∧ v147_p_m_end.toInt ≤ m_size.toInt))) → (m_at.toInt ≤ v147_p_m_at.toInt) → (TYm ad cy fr0 c_text m_taped m_size v147_p_m_faultKind v147_p_m_faultPlace v147_p_m_at v147_p_m_end v147_p_m_token v147_p_m_number v147_p_m_name v147_p_c_points v147_p_c_strands c_units c_told c_ruleFrom c_ruleTo c_code c_eWhat c_eSign m_bank m_rb m_codes m_within m_piled m_unitsInRule m_askStrand m_askTied m_thoughtClaim m_thoughtNeed m_thoughtAll c_roundOf m_acts m_undone m_laid m_firstMove m_seens m_time m_waysNow m_fitting f) → (va_P D vwCl (wl ad f) H) → (va_D A (wl ad f)) → (va_S A s.heap H locs) → (lv_has ls 3 [(1, .long m_name), (0, .ref (ad 148))]) → W p l e (rmO 6 127 0 0) s m ([.ref (ad 148)] : List Value).toArray below meth c H locs 0 0 (MQ below (va_Qv (fun (g : Nat → va_E) => True ∧ (∃ (m_faultKind' : Int32) (m_faultPlace' : Int32) (m_at' : Int32) (m_end' : Int32) (m_token' : Int32) (m_number' : Int32) (m_name' : Int64) (c_points' : Nat → Int32) (c_strands' : Nat → Int32) (c_units' : Nat → Int32) (c_told' : Nat → Int32) (c_ruleFrom' : Nat → Int32) (c_ruleTo' : Nat → Int32) (c_code' : Nat → Int32) (c_eWhat' : Nat → Int32) (c_eSign' : Nat → Int32) (m_codes' : Int32) (m_within' : Int32) (m_piled' : Int32) (m_unitsInRule' : Int32), TYm ad cy fr0 c_text m_taped m_size m_faultKind' m_faultPlace' m_at' m_end' m_token' m_number' m_name' c_points' c_strands' c_units' c_told' c_ruleFrom' c_ruleTo' c_code' c_eWhat' c_eSign' m_bank m_rb m_codes' m_within' m_piled' m_unitsInRule' m_askStrand m_askTied m_thoughtClaim m_thoughtNeed m_thoughtAll c_roundOf m_acts m_undone m_laid m_firstMove m_seens m_time m_waysNow m_fitting g ∧ (0 ≤ m_end'.toInt ∧ m_end'.toInt ≤ 1600) ∧ ((m_token'.toInt = 0 ∧ m_at'.toInt = m_size.toInt ∧ m_end'.toInt = m_size.toInt) ∨ (1 ≤ m_token'.toInt ∧ m_at'.toInt < m_end'.toInt ∧ m_end'.toInt ≤ m_size.toInt)) ∧ (1 ≤ m_faultKind'.toInt ∨ m_at.toInt < m_at'.toInt) ∧ m_at.toInt ≤ m_at'.toInt ∧ PV c_told' c_ruleFrom' c_ruleTo' c_code' m_codes' m_rb ∧ FrC c_code c_code' m_rb ∧ Fr1 c_told c_told' m_rb ∧ Fr1 c_ruleFrom c_ruleFrom' m_rb ∧ Fr1 c_ruleTo c_ruleTo' m_rb)) (fun g t => PstT D ad g t) A) ([.ref (ad 148)] : List Value).toArray s 0 0 A) (F0 m 147 ls []) := by
    intro f H locs ls v147_p_m_faultKind v147_p_m_faultPlace v147_p_m_at v147_p_m_end v147_p_m_token v147_p_m_number v147_p_m_name v147_p_c_points v147_p_c_strands hv147_p_m_end hJ147_0 hJ147_1 hPV hFr hF_told hF_ruleFrom hF_ruleTo hJ147_7 hJ147_8 hT hP hD hS hl
    refine lv_lload_n hx hb dX9_readLine_147 rfl (lv_at hl 0 rfl) ?_
    have ttlj_422607680115 := tlj_422607680115
    refine lv_ldc2 (v := 422607680115) hx hb hown (hts (.constantLong RX9 153 (422607680115)) (List.mem_of_getElem? (i := 11) rfl)) dX9_readLine_148 ?_
    refine lvcmp hx hb dX9_readLine_151 (fun x176 hx176 => ?_)
    have ttl_0 := tl_0
    refine lv_if_ne (tgt := 159) hx hb dX9_readLine_152 (by decide) (fun c177 => ?_) (fun c177 => ?_)
    · have kc177 := c_ne c177
      obtain ⟨e193, h178, h179, h180, h181, h182, h183, h184, h185, h186, h187, h188, h189, h190, h191, h192⟩ := (show okX9 ad m_taped m_size v147_p_m_faultKind v147_p_m_faultPlace v147_p_m_at v147_p_m_end v147_p_m_token v147_p_m_number v147_p_m_name m_bank m_rb m_codes m_within m_piled m_unitsInRule m_askStrand m_askTied m_thoughtClaim m_thoughtNeed m_thoughtAll m_acts m_undone m_laid m_firstMove m_seens m_time m_waysNow m_fitting 148 (f 148) from hT.1 148 (by decide))
      exact j159 f H locs ls v147_p_m_faultKind v147_p_m_faultPlace v147_p_m_at v147_p_m_end v147_p_m_token v147_p_m_number v147_p_m_name v147_p_c_points v147_p_c_strands c_units c_told c_ruleFrom c_ruleTo c_code c_eWhat c_eSign m_codes m_within m_piled m_unitsInRule (by omega) (by omega) (hPV) (hFr) (hF_told) (hF_ruleFrom) (hF_ruleTo) (by omega) (by omega) hT hP hD hS (lv_sub hl [0, 1] rfl)
    · have kc177 := c_eq c177
      have hco := hPV.2 (by omega)
      refine lv_aload_n hx hb dX9_readLine_155 rfl (lv_at hl 1 rfl) ?_
      obtain ⟨e209, h194, h195, h196, h197, h198, h199, h200, h201, h202, h203, h204, h205, h206, h207, h208⟩ := (show okX9 ad m_taped m_size v147_p_m_faultKind v147_p_m_faultPlace v147_p_m_at v147_p_m_end v147_p_m_token v147_p_m_number v147_p_m_name m_bank m_rb m_codes m_within m_piled m_unitsInRule m_askStrand m_askTied m_thoughtClaim m_thoughtNeed m_thoughtAll m_acts m_undone m_laid m_firstMove m_seens m_time m_waysNow m_fitting 148 (f 148) from hT.1 148 (by decide))
      refine tVV (As := []) (rest := []) (i := 148) ⟨hx, hb, hml, hown, hts⟩ hK hE hP hD hS hA hAB (s_X9_readRule_0 l B0 adK adV D cy ad fr0 c_text m_taped m_size v147_p_m_faultKind v147_p_m_faultPlace v147_p_m_at v147_p_m_end v147_p_m_token v147_p_m_number v147_p_m_name v147_p_c_points v147_p_c_strands c_units c_told c_ruleFrom c_ruleTo c_code c_eWhat c_eSign m_bank m_rb m_codes m_within m_piled m_unitsInRule m_askStrand m_askTied m_thoughtClaim m_thoughtNeed m_thoughtAll c_roundOf m_acts m_undone m_laid m_firstMove m_seens m_time m_waysNow m_fitting f hT (by omega) (by omega) (by omega) (by omega) _) (cwV 0 hts gX9_readLine_X9_readRule rfl rfl rfl (by decide +kernel) ⟨Nat.le_of_ble_eq_true rfl, Nat.le_of_ble_eq_true rfl⟩) (by decide) 9 e209 rfl rfl hl.1 rfl (Nat.le_of_ble_eq_true rfl) dX9_readLine_156 ⟨Nat.le_of_ble_eq_true rfl, Nat.le_of_ble_eq_true rfl⟩ (fun f H locs hw hP hD hS => ?_)
      obtain ⟨hrs, x210, x211, x212, x213, x214, x215, y216, y217, y218, y219, y220, y221, y222, y223, x224, x225, x226, x227, hT, h228, h229, h230, hRR, hFr2, hF_told2, hF_ruleFrom2, hF_ruleTo2, h231⟩ := hw
      have hFr := FrC_tr hFr hFr2
      have hF_told := Fr1_tr hF_told hF_told2
      have hF_ruleFrom := Fr1_tr hF_ruleFrom hF_ruleFrom2
      have hF_ruleTo := Fr1_tr hF_ruleTo hF_ruleTo2
      have hPV : PV y218 y219 y220 y221 x224 m_rb := ⟨fun _ => hRR, fun q => absurd (by assumption) q⟩
      obtain ⟨e247, h232, h233, h234, h235, h236, h237, h238, h239, h240, h241, h242, h243, h244, h245, h246⟩ := (show okX9 ad m_taped m_size x210 x211 x212 x213 x214 x215 y216 m_bank m_rb x224 x225 x226 x227 m_askStrand m_askTied m_thoughtClaim m_thoughtNeed m_thoughtAll m_acts m_undone m_laid m_firstMove m_seens m_time m_waysNow m_fitting 148 (f 148) from hT.1 148 (by decide))
      exact j159 f H locs ls x210 x211 x212 x213 x214 x215 y216 v147_p_c_points v147_p_c_strands y217 y218 y219 y220 y221 y222 y223 x224 x225 x226 x227 (by omega) (by omega) (hPV) (hFr) (hF_told) (hF_ruleFrom) (hF_ruleTo) (by omega) (by omega) hT hP hD hS (lv_sub hl [0, 1] rfl)
  have j135 : ∀ (f : Nat → va_E) (H : Heap) (locs : List Loc) (ls : Array Slot) (v135_p_m_faultKind : Int32) (v135_p_m_faultPlace : Int32) (v135_p_m_at : Int32) (v135_p_m_end : Int32) (v135_p_m_token : Int32) (v135_p_m_number : Int32) (v135_p_m_name : Int64) (v135_p_c_points : Nat → Int32), (0 ≤ v135_p_m_end.toInt ∧ v135_p_m_end.toInt ≤ 1600) → ((m_name.toInt = 126943972388452 → (c_strands m_rb.toNatClampNeg).toInt ≤ 11)) → ((m_name.toInt = 422607680115 → ¬ (bitF (c_told m_rb.toNatClampNeg) 0).toInt = 1)) → (m_at.toInt < v135_p_m_at.toInt) → (PV c_told c_ruleFrom c_ruleTo c_code m_codes m_rb) → (FrC c_code c_code m_rb) → (Fr1 c_told c_told m_rb) → (Fr1 c_ruleFrom c_ruleFrom m_rb) → (Fr1 c_ruleTo c_ruleTo m_rb) → (((v135_p_m_token.toInt = 0 ∧ v135_p_m_at.toInt = m_size.toInt ∧ v135_p_m_end.toInt = m_size.toInt) ∨ (1 ≤ v135_p_m_token.toInt ∧ v135_p_m_at.toInt < v135_p_m_end.toInt ∧ v135_p_m_end.toInt ≤ m_size.toInt))) → (m_at.toInt ≤ v135_p_m_at.toInt) → (TYm ad cy fr0 c_text m_taped m_size v135_p_m_faultKind v135_p_m_faultPlace v135_p_m_at v135_p_m_end v135_p_m_token v135_p_m_number v135_p_m_name v135_p_c_points c_strands c_units c_told c_ruleFrom c_ruleTo c_code c_eWhat c_eSign m_bank m_rb m_codes m_within m_piled m_unitsInRule m_askStrand m_askTied m_thoughtClaim m_thoughtNeed m_thoughtAll c_roundOf m_acts m_undone m_laid m_firstMove m_seens m_time m_waysNow m_fitting f) → (va_P D vwCl (wl ad f) H) → (va_D A (wl ad f)) → (va_S A s.heap H locs) → (lv_has ls 3 [(1, .long m_name), (0, .ref (ad 148))]) → W p l e (rmO 6 127 0 0) s m ([.ref (ad 148)] : List Value).toArray below meth c H locs 0 0 (MQ below (va_Qv (fun (g : Nat → va_E) => True ∧ (∃ (m_faultKind' : Int32) (m_faultPlace' : Int32) (m_at' : Int32) (m_end' : Int32) (m_token' : Int32) (m_number' : Int32) (m_name' : Int64) (c_points' : Nat → Int32) (c_strands' : Nat → Int32) (c_units' : Nat → Int32) (c_told' : Nat → Int32) (c_ruleFrom' : Nat → Int32) (c_ruleTo' : Nat → Int32) (c_code' : Nat → Int32) (c_eWhat' : Nat → Int32) (c_eSign' : Nat → Int32) (m_codes' : Int32) (m_within' : Int32) (m_piled' : Int32) (m_unitsInRule' : Int32), TYm ad cy fr0 c_text m_taped m_size m_faultKind' m_faultPlace' m_at' m_end' m_token' m_number' m_name' c_points' c_strands' c_units' c_told' c_ruleFrom' c_ruleTo' c_code' c_eWhat' c_eSign' m_bank m_rb m_codes' m_within' m_piled' m_unitsInRule' m_askStrand m_askTied m_thoughtClaim m_thoughtNeed m_thoughtAll c_roundOf m_acts m_undone m_laid m_firstMove m_seens m_time m_waysNow m_fitting g ∧ (0 ≤ m_end'.toInt ∧ m_end'.toInt ≤ 1600) ∧ ((m_token'.toInt = 0 ∧ m_at'.toInt = m_size.toInt ∧ m_end'.toInt = m_size.toInt) ∨ (1 ≤ m_token'.toInt ∧ m_at'.toInt < m_end'.toInt ∧ m_end'.toInt ≤ m_size.toInt)) ∧ (1 ≤ m_faultKind'.toInt ∨ m_at.toInt < m_at'.toInt) ∧ m_at.toInt ≤ m_at'.toInt ∧ PV c_told' c_ruleFrom' c_ruleTo' c_code' m_codes' m_rb ∧ FrC c_code c_code' m_rb ∧ Fr1 c_told c_told' m_rb ∧ Fr1 c_ruleFrom c_ruleFrom' m_rb ∧ Fr1 c_ruleTo c_ruleTo' m_rb)) (fun g t => PstT D ad g t) A) ([.ref (ad 148)] : List Value).toArray s 0 0 A) (F0 m 135 ls []) := by
    intro f H locs ls v135_p_m_faultKind v135_p_m_faultPlace v135_p_m_at v135_p_m_end v135_p_m_token v135_p_m_number v135_p_m_name v135_p_c_points hv135_p_m_end hJ135_0 hJ135_1 hJ135_2 hPV hFr hF_told hF_ruleFrom hF_ruleTo hJ135_8 hJ135_9 hT hP hD hS hl
    refine lv_lload_n hx hb dX9_readLine_135 rfl (lv_at hl 0 rfl) ?_
    have ttlj_126943972388452 := tlj_126943972388452
    refine lv_ldc2 (v := 126943972388452) hx hb hown (hts (.constantLong RX9 149 (126943972388452)) (List.mem_of_getElem? (i := 10) rfl)) dX9_readLine_136 ?_
    refine lvcmp hx hb dX9_readLine_139 (fun x248 hx248 => ?_)
    have ttl_0 := tl_0
    refine lv_if_ne (tgt := 147) hx hb dX9_readLine_140 (by decide) (fun c249 => ?_) (fun c249 => ?_)
    · have kc249 := c_ne c249
      obtain ⟨e265, h250, h251, h252, h253, h254, h255, h256, h257, h258, h259, h260, h261, h262, h263, h264⟩ := (show okX9 ad m_taped m_size v135_p_m_faultKind v135_p_m_faultPlace v135_p_m_at v135_p_m_end v135_p_m_token v135_p_m_number v135_p_m_name m_bank m_rb m_codes m_within m_piled m_unitsInRule m_askStrand m_askTied m_thoughtClaim m_thoughtNeed m_thoughtAll m_acts m_undone m_laid m_firstMove m_seens m_time m_waysNow m_fitting 148 (f 148) from hT.1 148 (by decide))
      exact j147 f H locs ls v135_p_m_faultKind v135_p_m_faultPlace v135_p_m_at v135_p_m_end v135_p_m_token v135_p_m_number v135_p_m_name v135_p_c_points c_strands (by omega) (by omega) (by omega) (hPV) (hFr) (hF_told) (hF_ruleFrom) (hF_ruleTo) (by omega) (by omega) hT hP hD hS (lv_sub hl [0, 1] rfl)
    · have kc249 := c_eq c249
      refine lv_aload_n hx hb dX9_readLine_143 rfl (lv_at hl 1 rfl) ?_
      obtain ⟨e281, h266, h267, h268, h269, h270, h271, h272, h273, h274, h275, h276, h277, h278, h279, h280⟩ := (show okX9 ad m_taped m_size v135_p_m_faultKind v135_p_m_faultPlace v135_p_m_at v135_p_m_end v135_p_m_token v135_p_m_number v135_p_m_name m_bank m_rb m_codes m_within m_piled m_unitsInRule m_askStrand m_askTied m_thoughtClaim m_thoughtNeed m_thoughtAll m_acts m_undone m_laid m_firstMove m_seens m_time m_waysNow m_fitting 148 (f 148) from hT.1 148 (by decide))
      refine tVV (As := []) (rest := []) (i := 148) ⟨hx, hb, hml, hown, hts⟩ hK hE hP hD hS hA hAB (s_X9_readStrand_0 l B0 adK adV D cy ad fr0 c_text m_taped m_size v135_p_m_faultKind v135_p_m_faultPlace v135_p_m_at v135_p_m_end v135_p_m_token v135_p_m_number v135_p_m_name v135_p_c_points c_strands c_units c_told c_ruleFrom c_ruleTo c_code c_eWhat c_eSign m_bank m_rb m_codes m_within m_piled m_unitsInRule m_askStrand m_askTied m_thoughtClaim m_thoughtNeed m_thoughtAll c_roundOf m_acts m_undone m_laid m_firstMove m_seens m_time m_waysNow m_fitting f hT (by omega) (by omega) (by omega) _) (cwV 0 hts gX9_readLine_X9_readStrand rfl rfl rfl (by decide +kernel) ⟨Nat.le_of_ble_eq_true rfl, Nat.le_of_ble_eq_true rfl⟩) (by decide) 9 e281 rfl rfl hl.1 rfl (Nat.le_of_ble_eq_true rfl) dX9_readLine_144 ⟨Nat.le_of_ble_eq_true rfl, Nat.le_of_ble_eq_true rfl⟩ (fun f H locs hw hP hD hS => ?_)
      obtain ⟨hrs, x282, x283, x284, x285, x286, x287, y288, y289, hT, h290, h291, h292⟩ := hw
      obtain ⟨e308, h293, h294, h295, h296, h297, h298, h299, h300, h301, h302, h303, h304, h305, h306, h307⟩ := (show okX9 ad m_taped m_size x282 x283 x284 x285 x286 x287 y288 m_bank m_rb m_codes m_within m_piled m_unitsInRule m_askStrand m_askTied m_thoughtClaim m_thoughtNeed m_thoughtAll m_acts m_undone m_laid m_firstMove m_seens m_time m_waysNow m_fitting 148 (f 148) from hT.1 148 (by decide))
      exact j147 f H locs ls x282 x283 x284 x285 x286 x287 y288 v135_p_c_points y289 (by omega) (by omega) (by omega) (hPV) (hFr) (hF_told) (hF_ruleFrom) (hF_ruleTo) (by omega) (by omega) hT hP hD hS (lv_sub hl [0, 1] rfl)
  have j121 : ∀ (f : Nat → va_E) (H : Heap) (locs : List Loc) (ls : Array Slot) (v121_s1 : Int32) (v121_s2 : Int32) (v121_p_m_faultKind : Int32) (v121_p_m_faultPlace : Int32) (v121_p_m_at : Int32) (v121_p_m_end : Int32) (v121_p_m_token : Int32) (v121_p_m_number : Int32) (v121_p_m_name : Int64), (0 ≤ v121_s1.toInt ∧ v121_s1.toInt ≤ 19) → (0 ≤ v121_p_m_end.toInt ∧ v121_p_m_end.toInt ≤ 1600) → ((c_points m_rb.toNatClampNeg).toInt ≤ 9) → ((m_name.toInt = 1717658484 ∨ m_name.toInt = 427020085613)) → (m_at.toInt < v121_p_m_at.toInt) → (PV c_told c_ruleFrom c_ruleTo c_code m_codes m_rb) → (FrC c_code c_code m_rb) → (Fr1 c_told c_told m_rb) → (Fr1 c_ruleFrom c_ruleFrom m_rb) → (Fr1 c_ruleTo c_ruleTo m_rb) → (((v121_p_m_token.toInt = 0 ∧ v121_p_m_at.toInt = m_size.toInt ∧ v121_p_m_end.toInt = m_size.toInt) ∨ (1 ≤ v121_p_m_token.toInt ∧ v121_p_m_at.toInt < v121_p_m_end.toInt ∧ v121_p_m_end.toInt ≤ m_size.toInt))) → (m_at.toInt ≤ v121_p_m_at.toInt) → (TYm ad cy fr0 c_text m_taped m_size v121_p_m_faultKind v121_p_m_faultPlace v121_p_m_at v121_p_m_end v121_p_m_token v121_p_m_number v121_p_m_name c_points c_strands c_units c_told c_ruleFrom c_ruleTo c_code c_eWhat c_eSign m_bank m_rb m_codes m_within m_piled m_unitsInRule m_askStrand m_askTied m_thoughtClaim m_thoughtNeed m_thoughtAll c_roundOf m_acts m_undone m_laid m_firstMove m_seens m_time m_waysNow m_fitting f) → (va_P D vwCl (wl ad f) H) → (va_D A (wl ad f)) → (va_S A s.heap H locs) → (lv_has ls 3 [(1, .long m_name), (0, .ref (ad 148))]) → W p l e (rmO 6 127 0 0) s m ([.ref (ad 148)] : List Value).toArray below meth c H locs 0 0 (MQ below (va_Qv (fun (g : Nat → va_E) => True ∧ (∃ (m_faultKind' : Int32) (m_faultPlace' : Int32) (m_at' : Int32) (m_end' : Int32) (m_token' : Int32) (m_number' : Int32) (m_name' : Int64) (c_points' : Nat → Int32) (c_strands' : Nat → Int32) (c_units' : Nat → Int32) (c_told' : Nat → Int32) (c_ruleFrom' : Nat → Int32) (c_ruleTo' : Nat → Int32) (c_code' : Nat → Int32) (c_eWhat' : Nat → Int32) (c_eSign' : Nat → Int32) (m_codes' : Int32) (m_within' : Int32) (m_piled' : Int32) (m_unitsInRule' : Int32), TYm ad cy fr0 c_text m_taped m_size m_faultKind' m_faultPlace' m_at' m_end' m_token' m_number' m_name' c_points' c_strands' c_units' c_told' c_ruleFrom' c_ruleTo' c_code' c_eWhat' c_eSign' m_bank m_rb m_codes' m_within' m_piled' m_unitsInRule' m_askStrand m_askTied m_thoughtClaim m_thoughtNeed m_thoughtAll c_roundOf m_acts m_undone m_laid m_firstMove m_seens m_time m_waysNow m_fitting g ∧ (0 ≤ m_end'.toInt ∧ m_end'.toInt ≤ 1600) ∧ ((m_token'.toInt = 0 ∧ m_at'.toInt = m_size.toInt ∧ m_end'.toInt = m_size.toInt) ∨ (1 ≤ m_token'.toInt ∧ m_at'.toInt < m_end'.toInt ∧ m_end'.toInt ≤ m_size.toInt)) ∧ (1 ≤ m_faultKind'.toInt ∨ m_at.toInt < m_at'.toInt) ∧ m_at.toInt ≤ m_at'.toInt ∧ PV c_told' c_ruleFrom' c_ruleTo' c_code' m_codes' m_rb ∧ FrC c_code c_code' m_rb ∧ Fr1 c_told c_told' m_rb ∧ Fr1 c_ruleFrom c_ruleFrom' m_rb ∧ Fr1 c_ruleTo c_ruleTo' m_rb)) (fun g t => PstT D ad g t) A) ([.ref (ad 148)] : List Value).toArray s 0 0 A) (F0 m 121 ls [.int v121_s2, .int v121_s1, .ref (ad 157)]) := by
    intro f H locs ls v121_s1 v121_s2 v121_p_m_faultKind v121_p_m_faultPlace v121_p_m_at v121_p_m_end v121_p_m_token v121_p_m_number v121_p_m_name hv121_s1 hv121_p_m_end hJ121_0 hJ121_1 hJ121_2 hPV hFr hF_told hF_ruleFrom hF_ruleTo hJ121_8 hJ121_9 hT hP hD hS hl
    obtain ⟨g310, e309⟩ := (show okI cy 20 (f 157) from hT.1 157 (by decide))
    refine va_iast hx hb hK hP hD hS 157 0 (wl_at (by decide) e309) rfl (vp_in_iff.mpr ⟨by omega, by omega⟩) dX9_readLine_121 (fun H locs hP hD hS => ?_)
    obtain ⟨f, hT, hP, hD, e311, hj312⟩ := stU (by decide) (TYm.up hT (by decide) (show OKm ad cy c_text m_taped m_size v121_p_m_faultKind v121_p_m_faultPlace v121_p_m_at v121_p_m_end v121_p_m_token v121_p_m_number v121_p_m_name c_points c_strands c_units c_told c_ruleFrom c_ruleTo c_code c_eWhat c_eSign m_bank m_rb m_codes m_within m_piled m_unitsInRule m_askStrand m_askTied m_thoughtClaim m_thoughtNeed m_thoughtAll c_roundOf m_acts m_undone m_laid m_firstMove m_seens m_time m_waysNow m_fitting 157 _ from (show okI cy 20 _ from ⟨_, rfl⟩))) hP hD
    refine lv_aload_n hx hb dX9_readLine_122 rfl (lv_at hl 1 rfl) ?_
    obtain ⟨e328, h313, h314, h315, h316, h317, h318, h319, h320, h321, h322, h323, h324, h325, h326, h327⟩ := (show okX9 ad m_taped m_size v121_p_m_faultKind v121_p_m_faultPlace v121_p_m_at v121_p_m_end v121_p_m_token v121_p_m_number v121_p_m_name m_bank m_rb m_codes m_within m_piled m_unitsInRule m_askStrand m_askTied m_thoughtClaim m_thoughtNeed m_thoughtAll m_acts m_undone m_laid m_firstMove m_seens m_time m_waysNow m_fitting 148 (f 148) from hT.1 148 (by decide))
    refine va_get (D := D) (cl := vwCl) (ci := 9) (v := .ref (ad 151)) (C := RX9) (T := TX9) (N := 64) hx hb hts in_X9_readLine_X9 hown hK hP 148 (wl_at (by decide) e328) rfl 11 (by decide) (hts (.fieldLink RX9 20 "EightReasonsModel" "points" "[I") (List.mem_of_getElem? (i := 7) rfl)) (fun _ h9 => h9) rfl dX9_readLine_123 ?_
    refine lv_aload_n hx hb dX9_readLine_126 rfl (lv_at hl 1 rfl) ?_
    refine va_get (D := D) (cl := vwCl) (ci := 9) (v := .int m_rb) (C := RX9) (T := TX9) (N := 64) hx hb hts in_X9_readLine_X9 hown hK hP 148 (wl_at (by decide) e328) rfl 30 (by decide) (hts (.fieldLink RX9 230 "EightReasonsModel" "rb" "I") (List.mem_of_getElem? (i := 6) rfl)) (fun _ h9 => h9) rfl dX9_readLine_127 ?_
    refine lv_dup2_11 hx hb dX9_readLine_130 rfl rfl ?_
    obtain ⟨e329, h330⟩ := (show okIpr cy 2 (0) (10) 1 0 c_points (f 151) from hT.1 151 (by decide))
    refine va_iald hx hb hK hP 151 0 (wl_at (by decide) e329) rfl (vp_in_iff.mpr ⟨by omega, by omega⟩) dX9_readLine_131 ?_
    refine lv_topi (fun x331 ex331 => ?_)
    have hx331 := r_el (h330 _ (Nat.mod_one _)) ex331
    have kx331 := congrArg Int32.toInt ex331
    have ha332 : 0 ≤ x331.toInt ∧ x331.toInt ≤ 9 := by omega
    refine lv_iconst (v := 1) hx hb dX9_readLine_132 (by decide) ?_
    have ttl_1 := tl_1
    refine lv_iadd hx hb dX9_readLine_133 ?_
    refine lv_topi (fun x333 ex333 => ?_)
    have hx333 := r_add ex333 (by omega) (by omega)
    refine va_iast hx hb hK hP hD hS 151 0 (wl_at (by decide) e329) rfl (vp_in_iff.mpr ⟨by omega, by omega⟩) dX9_readLine_134 (fun H locs hP hD hS => ?_)
    obtain ⟨c334, ec334⟩ : ∃ q, q = upd c_points (Int32.toNatClampNeg m_rb) x333 := ⟨_, rfl⟩
    rw [← ec334] at hP hD
    obtain ⟨f, hT, hP, hD, e335, hj336⟩ := stU (by decide) (TYm.p151 hT (show OKm ad cy c_text m_taped m_size v121_p_m_faultKind v121_p_m_faultPlace v121_p_m_at v121_p_m_end v121_p_m_token v121_p_m_number v121_p_m_name c334 c_strands c_units c_told c_ruleFrom c_ruleTo c_code c_eWhat c_eSign m_bank m_rb m_codes m_within m_piled m_unitsInRule m_askStrand m_askTied m_thoughtClaim m_thoughtNeed m_thoughtAll c_roundOf m_acts m_undone m_laid m_firstMove m_seens m_time m_waysNow m_fitting 151 _ from (show okIpr cy 2 (0) (10) 1 0 c334 _ from ⟨rfl, by rw [ec334]; exact upd_r h330 (fun _ => by omega)⟩))) hP hD
    have e337 := (hj336 148 (by decide)).trans e328
    exact j135 f H locs ls v121_p_m_faultKind v121_p_m_faultPlace v121_p_m_at v121_p_m_end v121_p_m_token v121_p_m_number v121_p_m_name c334 (by omega) (by omega) (by omega) (by omega) (hPV) (hFr) (hF_told) (hF_ruleFrom) (hF_ruleTo) (by omega) (by omega) hT hP hD hS (lv_sub hl [0, 1] rfl)
  have hFr := FrC_rf c_code m_rb
  have hF_told := Fr1_rf c_told m_rb
  have hF_ruleFrom := Fr1_rf c_ruleFrom m_rb
  have hF_ruleTo := Fr1_rf c_ruleTo m_rb
  refine lv_aload_n hx hb dX9_readLine_0 rfl (lv_at hl 0 rfl) ?_
  obtain ⟨e353, h338, h339, h340, h341, h342, h343, h344, h345, h346, h347, h348, h349, h350, h351, h352⟩ := (show okX9 ad m_taped m_size m_faultKind m_faultPlace m_at m_end m_token m_number m_name m_bank m_rb m_codes m_within m_piled m_unitsInRule m_askStrand m_askTied m_thoughtClaim m_thoughtNeed m_thoughtAll m_acts m_undone m_laid m_firstMove m_seens m_time m_waysNow m_fitting 148 (f 148) from hT.1 148 (by decide))
  refine va_get (D := D) (cl := vwCl) (ci := 9) (v := .long m_name) (C := RX9) (T := TX9) (N := 64) hx hb hts in_X9_readLine_X9 hown hK hP 148 (wl_at (by decide) e353) rfl 10 (by decide) (hts (.fieldLink RX9 188 "EightReasonsModel" "name" "J") (List.mem_of_getElem? (i := 1) rfl)) (fun _ h9 => h9) rfl dX9_readLine_1 ?_
  refine lv_lstore_n (lv' := [(1, .long m_name), (0, .ref (ad 148))]) hx hb dX9_readLine_4 rfl hl (by decide) rfl (fun ls hl => ?_)
  refine lv_aload_n hx hb dX9_readLine_5 rfl (lv_at hl 1 rfl) ?_
  refine va_get (D := D) (cl := vwCl) (ci := 9) (v := .int m_token) (C := RX9) (T := TX9) (N := 64) hx hb hts in_X9_readLine_X9 hown hK hP 148 (wl_at (by decide) e353) rfl 8 (by decide) (hts (.fieldLink RX9 181 "EightReasonsModel" "token" "I") (List.mem_of_getElem? (i := 2) rfl)) (fun _ h9 => h9) rfl dX9_readLine_6 ?_
  refine lv_iconst (v := 3) hx hb dX9_readLine_9 (by decide) ?_
  have ttl_3 := tl_3
  refine lv_icmp_ne (tgt := 20) hx hb dX9_readLine_10 (by decide) (fun c354 => ?_) (fun c354 => ?_)
  · have kc354 := c_ne c354
    refine lv_aload_n hx hb dX9_readLine_20 rfl (lv_at hl 1 rfl) ?_
    refine tVV (As := []) (rest := []) (i := 148) ⟨hx, hb, hml, hown, hts⟩ hK hE hP hD hS hA hAB (s_X9_misplaced_0 l B0 adK adV D cy ad fr0 c_text m_taped m_size m_faultKind m_faultPlace m_at m_end m_token m_number m_name c_points c_strands c_units c_told c_ruleFrom c_ruleTo c_code c_eWhat c_eSign m_bank m_rb m_codes m_within m_piled m_unitsInRule m_askStrand m_askTied m_thoughtClaim m_thoughtNeed m_thoughtAll c_roundOf m_acts m_undone m_laid m_firstMove m_seens m_time m_waysNow m_fitting f hT _) (cwV 0 hts gX9_readLine_X9_misplaced rfl rfl rfl (by decide +kernel) ⟨Nat.le_of_ble_eq_true rfl, Nat.le_of_ble_eq_true rfl⟩) (by decide) 9 e353 rfl rfl hl.1 rfl (Nat.le_of_ble_eq_true rfl) dX9_readLine_21 ⟨Nat.le_of_ble_eq_true rfl, Nat.le_of_ble_eq_true rfl⟩ (fun f H locs hw hP hD hS => ?_)
    obtain ⟨hrs, x355, x356, hT, h357⟩ := hw
    refine lv_aload_n hx hb dX9_readLine_24 rfl (lv_at hl 1 rfl) ?_
    obtain ⟨e373, h358, h359, h360, h361, h362, h363, h364, h365, h366, h367, h368, h369, h370, h371, h372⟩ := (show okX9 ad m_taped m_size x355 x356 m_at m_end m_token m_number m_name m_bank m_rb m_codes m_within m_piled m_unitsInRule m_askStrand m_askTied m_thoughtClaim m_thoughtNeed m_thoughtAll m_acts m_undone m_laid m_firstMove m_seens m_time m_waysNow m_fitting 148 (f 148) from hT.1 148 (by decide))
    refine tVI (As := []) (rest := []) (i := 148) ⟨hx, hb, hml, hown, hts⟩ hK hE hP hD hS hA hAB (s_X9_isGood_0 l B0 adK adV D cy ad fr0 c_text m_taped m_size x355 x356 m_at m_end m_token m_number m_name c_points c_strands c_units c_told c_ruleFrom c_ruleTo c_code c_eWhat c_eSign m_bank m_rb m_codes m_within m_piled m_unitsInRule m_askStrand m_askTied m_thoughtClaim m_thoughtNeed m_thoughtAll c_roundOf m_acts m_undone m_laid m_firstMove m_seens m_time m_waysNow m_fitting f hT _) (cwV 0 hts gX9_readLine_X9_isGood rfl rfl rfl (by decide +kernel) ⟨Nat.le_of_ble_eq_true rfl, Nat.le_of_ble_eq_true rfl⟩) (by decide) 9 e373 rfl rfl hl.1 rfl (Nat.le_of_ble_eq_true rfl) dX9_readLine_25 ⟨Nat.le_of_ble_eq_true rfl, Nat.le_of_ble_eq_true rfl⟩ (fun r g H locs hw hP hD hS => ?_)
    obtain ⟨hrs, rfl⟩ := hw
    obtain ⟨x374, rfl⟩ : ∃ q, q = r := ⟨_, rfl⟩
    rcases hrs with ⟨rfl, h375⟩ | ⟨rfl, h376⟩
    · exact False.elim (by omega)
    · refine lv_if_ne (tgt := 32) hx hb dX9_readLine_28 (by decide) (fun c => absurd (by decide) c) (fun _ => ?_)
      exact tV hx hb hr hlk hP hS ⟨trivial, ⟨x355, x356, m_at, m_end, m_token, m_number, m_name, c_points, c_strands, c_units, c_told, c_ruleFrom, c_ruleTo, c_code, c_eWhat, c_eSign, m_codes, m_within, m_piled, m_unitsInRule, hT, by omega, by omega, by omega, by omega, hPV, hFr, hF_told, hF_ruleFrom, hF_ruleTo⟩⟩ dX9_readLine_31
  · have kc354 := c_eq c354
    refine lv_aload_n hx hb dX9_readLine_13 rfl (lv_at hl 1 rfl) ?_
    refine tVI (As := []) (rest := []) (i := 148) ⟨hx, hb, hml, hown, hts⟩ hK hE hP hD hS hA hAB (s_X9_isFull_0 l B0 adK adV D cy ad fr0 c_text m_taped m_size m_faultKind m_faultPlace m_at m_end m_token m_number m_name c_points c_strands c_units c_told c_ruleFrom c_ruleTo c_code c_eWhat c_eSign m_bank m_rb m_codes m_within m_piled m_unitsInRule m_askStrand m_askTied m_thoughtClaim m_thoughtNeed m_thoughtAll c_roundOf m_acts m_undone m_laid m_firstMove m_seens m_time m_waysNow m_fitting f hT _) (cwV 0 hts gX9_readLine_X9_isFull rfl rfl rfl (by decide +kernel) ⟨Nat.le_of_ble_eq_true rfl, Nat.le_of_ble_eq_true rfl⟩) (by decide) 9 e353 rfl rfl hl.1 rfl (Nat.le_of_ble_eq_true rfl) dX9_readLine_14 ⟨Nat.le_of_ble_eq_true rfl, Nat.le_of_ble_eq_true rfl⟩ (fun r g H locs hw hP hD hS => ?_)
    obtain ⟨hrs, rfl⟩ := hw
    obtain ⟨x377, rfl⟩ : ∃ q, q = r := ⟨_, rfl⟩
    rcases hrs with rfl | ⟨rfl, h378, h379, h380⟩
    · refine lv_if_eq (tgt := 24) hx hb dX9_readLine_17 (by decide) (fun c => absurd c (by decide)) (fun _ => ?_)
      refine lv_aload_n hx hb dX9_readLine_20 rfl (lv_at hl 1 rfl) ?_
      refine tVV (As := []) (rest := []) (i := 148) ⟨hx, hb, hml, hown, hts⟩ hK hE hP hD hS hA hAB (s_X9_misplaced_0 l B0 adK adV D cy ad fr0 c_text m_taped m_size m_faultKind m_faultPlace m_at m_end m_token m_number m_name c_points c_strands c_units c_told c_ruleFrom c_ruleTo c_code c_eWhat c_eSign m_bank m_rb m_codes m_within m_piled m_unitsInRule m_askStrand m_askTied m_thoughtClaim m_thoughtNeed m_thoughtAll c_roundOf m_acts m_undone m_laid m_firstMove m_seens m_time m_waysNow m_fitting f hT _) (cwV 0 hts gX9_readLine_X9_misplaced rfl rfl rfl (by decide +kernel) ⟨Nat.le_of_ble_eq_true rfl, Nat.le_of_ble_eq_true rfl⟩) (by decide) 9 e353 rfl rfl hl.1 rfl (Nat.le_of_ble_eq_true rfl) dX9_readLine_21 ⟨Nat.le_of_ble_eq_true rfl, Nat.le_of_ble_eq_true rfl⟩ (fun f H locs hw hP hD hS => ?_)
      obtain ⟨hrs, x381, x382, hT, h383⟩ := hw
      refine lv_aload_n hx hb dX9_readLine_24 rfl (lv_at hl 1 rfl) ?_
      obtain ⟨e399, h384, h385, h386, h387, h388, h389, h390, h391, h392, h393, h394, h395, h396, h397, h398⟩ := (show okX9 ad m_taped m_size x381 x382 m_at m_end m_token m_number m_name m_bank m_rb m_codes m_within m_piled m_unitsInRule m_askStrand m_askTied m_thoughtClaim m_thoughtNeed m_thoughtAll m_acts m_undone m_laid m_firstMove m_seens m_time m_waysNow m_fitting 148 (f 148) from hT.1 148 (by decide))
      refine tVI (As := []) (rest := []) (i := 148) ⟨hx, hb, hml, hown, hts⟩ hK hE hP hD hS hA hAB (s_X9_isGood_0 l B0 adK adV D cy ad fr0 c_text m_taped m_size x381 x382 m_at m_end m_token m_number m_name c_points c_strands c_units c_told c_ruleFrom c_ruleTo c_code c_eWhat c_eSign m_bank m_rb m_codes m_within m_piled m_unitsInRule m_askStrand m_askTied m_thoughtClaim m_thoughtNeed m_thoughtAll c_roundOf m_acts m_undone m_laid m_firstMove m_seens m_time m_waysNow m_fitting f hT _) (cwV 0 hts gX9_readLine_X9_isGood rfl rfl rfl (by decide +kernel) ⟨Nat.le_of_ble_eq_true rfl, Nat.le_of_ble_eq_true rfl⟩) (by decide) 9 e399 rfl rfl hl.1 rfl (Nat.le_of_ble_eq_true rfl) dX9_readLine_25 ⟨Nat.le_of_ble_eq_true rfl, Nat.le_of_ble_eq_true rfl⟩ (fun r g H locs hw hP hD hS => ?_)
      obtain ⟨hrs, rfl⟩ := hw
      obtain ⟨x400, rfl⟩ : ∃ q, q = r := ⟨_, rfl⟩
      rcases hrs with ⟨rfl, h401⟩ | ⟨rfl, h402⟩
      · exact False.elim (by omega)
      · refine lv_if_ne (tgt := 32) hx hb dX9_readLine_28 (by decide) (fun c => absurd (by decide) c) (fun _ => ?_)
        exact tV hx hb hr hlk hP hS ⟨trivial, ⟨x381, x382, m_at, m_end, m_token, m_number, m_name, c_points, c_strands, c_units, c_told, c_ruleFrom, c_ruleTo, c_code, c_eWhat, c_eSign, m_codes, m_within, m_piled, m_unitsInRule, hT, by omega, by omega, by omega, by omega, hPV, hFr, hF_told, hF_ruleFrom, hF_ruleTo⟩⟩ dX9_readLine_31
    · refine lv_if_eq (tgt := 24) hx hb dX9_readLine_17 (by decide) (fun _ => ?_) (fun c => absurd (by decide) c)
      refine lv_aload_n hx hb dX9_readLine_24 rfl (lv_at hl 1 rfl) ?_
      refine tVI (As := []) (rest := []) (i := 148) ⟨hx, hb, hml, hown, hts⟩ hK hE hP hD hS hA hAB (s_X9_isGood_0 l B0 adK adV D cy ad fr0 c_text m_taped m_size m_faultKind m_faultPlace m_at m_end m_token m_number m_name c_points c_strands c_units c_told c_ruleFrom c_ruleTo c_code c_eWhat c_eSign m_bank m_rb m_codes m_within m_piled m_unitsInRule m_askStrand m_askTied m_thoughtClaim m_thoughtNeed m_thoughtAll c_roundOf m_acts m_undone m_laid m_firstMove m_seens m_time m_waysNow m_fitting f hT _) (cwV 0 hts gX9_readLine_X9_isGood rfl rfl rfl (by decide +kernel) ⟨Nat.le_of_ble_eq_true rfl, Nat.le_of_ble_eq_true rfl⟩) (by decide) 9 e353 rfl rfl hl.1 rfl (Nat.le_of_ble_eq_true rfl) dX9_readLine_25 ⟨Nat.le_of_ble_eq_true rfl, Nat.le_of_ble_eq_true rfl⟩ (fun r g H locs hw hP hD hS => ?_)
      obtain ⟨hrs, rfl⟩ := hw
      obtain ⟨x403, rfl⟩ : ∃ q, q = r := ⟨_, rfl⟩
      rcases hrs with ⟨rfl, h404⟩ | ⟨rfl, h405⟩
      · refine lv_if_ne (tgt := 32) hx hb dX9_readLine_28 (by decide) (fun _ => ?_) (fun c => absurd c (by decide))
        refine lv_aload_n hx hb dX9_readLine_32 rfl (lv_at hl 1 rfl) ?_
        refine tVV (As := []) (rest := []) (i := 148) ⟨hx, hb, hml, hown, hts⟩ hK hE hP hD hS hA hAB (s_X9_goOn_0 l B0 adK adV D cy ad fr0 c_text m_taped m_size m_faultKind m_faultPlace m_at m_end m_token m_number m_name c_points c_strands c_units c_told c_ruleFrom c_ruleTo c_code c_eWhat c_eSign m_bank m_rb m_codes m_within m_piled m_unitsInRule m_askStrand m_askTied m_thoughtClaim m_thoughtNeed m_thoughtAll c_roundOf m_acts m_undone m_laid m_firstMove m_seens m_time m_waysNow m_fitting f hT (by omega) (by omega) _) (cwV 0 hts gX9_readLine_X9_goOn rfl rfl rfl (by decide +kernel) ⟨Nat.le_of_ble_eq_true rfl, Nat.le_of_ble_eq_true rfl⟩) (by decide) 9 e353 rfl rfl hl.1 rfl (Nat.le_of_ble_eq_true rfl) dX9_readLine_33 ⟨Nat.le_of_ble_eq_true rfl, Nat.le_of_ble_eq_true rfl⟩ (fun f H locs hw hP hD hS => ?_)
        obtain ⟨hrs, x406, x407, x408, x409, y410, hT, h411, h412, h413⟩ := hw
        refine lv_lload_n hx hb dX9_readLine_36 rfl (lv_at hl 0 rfl) ?_
        have ttlj_1717658484 := tlj_1717658484
        refine lv_ldc2 (v := 1717658484) hx hb hown (hts (.constantLong RX9 143 (1717658484)) (List.mem_of_getElem? (i := 3) rfl)) dX9_readLine_37 ?_
        refine lvcmp hx hb dX9_readLine_40 (fun x414 hx414 => ?_)
        have ttl_0 := tl_0
        refine lv_if_eq (tgt := 52) hx hb dX9_readLine_41 (by decide) (fun c415 => ?_) (fun c415 => ?_)
        · have kc415 := c_eq c415
          refine lv_aload_n hx hb dX9_readLine_52 rfl (lv_at hl 1 rfl) ?_
          obtain ⟨e431, h416, h417, h418, h419, h420, h421, h422, h423, h424, h425, h426, h427, h428, h429, h430⟩ := (show okX9 ad m_taped m_size m_faultKind m_faultPlace x406 x407 x408 x409 y410 m_bank m_rb m_codes m_within m_piled m_unitsInRule m_askStrand m_askTied m_thoughtClaim m_thoughtNeed m_thoughtAll m_acts m_undone m_laid m_firstMove m_seens m_time m_waysNow m_fitting 148 (f 148) from hT.1 148 (by decide))
          refine va_get (D := D) (cl := vwCl) (ci := 9) (v := .ref (ad 163)) (C := RX9) (T := TX9) (N := 64) hx hb hts in_X9_readLine_X9 hown hK hP 148 (wl_at (by decide) e431) rfl 23 (by decide) (hts (.fieldLink RX9 57 "EightReasonsModel" "pName" "[J") (List.mem_of_getElem? (i := 5) rfl)) (fun _ h9 => h9) rfl dX9_readLine_53 ?_
          refine lv_bipush (v := 10) hx hb dX9_readLine_56 (by decide) ?_
          refine lv_aload_n hx hb dX9_readLine_58 rfl (lv_at hl 1 rfl) ?_
          refine va_get (D := D) (cl := vwCl) (ci := 9) (v := .int m_rb) (C := RX9) (T := TX9) (N := 64) hx hb hts in_X9_readLine_X9 hown hK hP 148 (wl_at (by decide) e431) rfl 30 (by decide) (hts (.fieldLink RX9 230 "EightReasonsModel" "rb" "I") (List.mem_of_getElem? (i := 6) rfl)) (fun _ h9 => h9) rfl dX9_readLine_59 ?_
          refine lv_imul hx hb dX9_readLine_62 ?_
          refine lv_topi (fun x432 ex432 => ?_)
          have hx432 := r_mull ex432 tl_10 (by omega) (by omega)
          refine lv_aload_n hx hb dX9_readLine_63 rfl (lv_at hl 1 rfl) ?_
          refine va_get (D := D) (cl := vwCl) (ci := 9) (v := .ref (ad 151)) (C := RX9) (T := TX9) (N := 64) hx hb hts in_X9_readLine_X9 hown hK hP 148 (wl_at (by decide) e431) rfl 11 (by decide) (hts (.fieldLink RX9 20 "EightReasonsModel" "points" "[I") (List.mem_of_getElem? (i := 7) rfl)) (fun _ h9 => h9) rfl dX9_readLine_64 ?_
          refine lv_aload_n hx hb dX9_readLine_67 rfl (lv_at hl 1 rfl) ?_
          refine va_get (D := D) (cl := vwCl) (ci := 9) (v := .int m_rb) (C := RX9) (T := TX9) (N := 64) hx hb hts in_X9_readLine_X9 hown hK hP 148 (wl_at (by decide) e431) rfl 30 (by decide) (hts (.fieldLink RX9 230 "EightReasonsModel" "rb" "I") (List.mem_of_getElem? (i := 6) rfl)) (fun _ h9 => h9) rfl dX9_readLine_68 ?_
          obtain ⟨e433, h434⟩ := (show okIpr cy 2 (0) (10) 1 0 c_points (f 151) from hT.1 151 (by decide))
          refine va_iald hx hb hK hP 151 0 (wl_at (by decide) e433) rfl (vp_in_iff.mpr ⟨by omega, by omega⟩) dX9_readLine_71 ?_
          refine lv_topi (fun x435 ex435 => ?_)
          have hx435 := r_el (h434 _ (Nat.mod_one _)) ex435
          have kx435 := congrArg Int32.toInt ex435
          have ha436 : 0 ≤ x435.toInt ∧ x435.toInt ≤ 9 := by omega
          refine lv_iadd hx hb dX9_readLine_72 ?_
          refine lv_topi (fun x437 ex437 => ?_)
          have hx437 := r_add ex437 (by omega) (by omega)
          refine lv_aload_n hx hb dX9_readLine_73 rfl (lv_at hl 1 rfl) ?_
          refine tVL (As := []) (rest := [.int x437, .ref (ad 163)]) (i := 148) ⟨hx, hb, hml, hown, hts⟩ hK hE hP hD hS hA hAB (s_X9_fresh_0 l B0 adK adV D cy ad fr0 c_text m_taped m_size m_faultKind m_faultPlace x406 x407 x408 x409 y410 c_points c_strands c_units c_told c_ruleFrom c_ruleTo c_code c_eWhat c_eSign m_bank m_rb m_codes m_within m_piled m_unitsInRule m_askStrand m_askTied m_thoughtClaim m_thoughtNeed m_thoughtAll c_roundOf m_acts m_undone m_laid m_firstMove m_seens m_time m_waysNow m_fitting f hT (by omega) (by omega) _) (cwV 0 hts gX9_readLine_X9_fresh rfl rfl rfl (by decide +kernel) ⟨Nat.le_of_ble_eq_true rfl, Nat.le_of_ble_eq_true rfl⟩) (by decide) 9 e431 rfl rfl hl.1 rfl (Nat.le_of_ble_eq_true rfl) dX9_readLine_74 ⟨Nat.le_of_ble_eq_true rfl, Nat.le_of_ble_eq_true rfl⟩ (fun r f H locs hw hP hD hS => ?_)
          obtain ⟨hrs, x438, x439, x440, x441, x442, x443, y444, hT, h445, h446, h447⟩ := hw
          obtain ⟨y448, rfl⟩ : ∃ q, q = r := ⟨_, rfl⟩
          obtain ⟨g450, e449⟩ := (show okJ cy 20 (f 163) from hT.1 163 (by decide))
          refine va_last hx hb hK hP hD hS 163 2 (wl_at (by decide) e449) rfl (vp_in_iff.mpr ⟨by omega, by omega⟩) dX9_readLine_77 (fun H locs hP hD hS => ?_)
          obtain ⟨f, hT, hP, hD, e451, hj452⟩ := stU (by decide) (TYm.up hT (by decide) (show OKm ad cy c_text m_taped m_size x438 x439 x440 x441 x442 x443 y444 c_points c_strands c_units c_told c_ruleFrom c_ruleTo c_code c_eWhat c_eSign m_bank m_rb m_codes m_within m_piled m_unitsInRule m_askStrand m_askTied m_thoughtClaim m_thoughtNeed m_thoughtAll c_roundOf m_acts m_undone m_laid m_firstMove m_seens m_time m_waysNow m_fitting 163 _ from (show okJ cy 20 _ from ⟨_, rfl⟩))) hP hD
          refine lv_aload_n hx hb dX9_readLine_78 rfl (lv_at hl 1 rfl) ?_
          obtain ⟨e468, h453, h454, h455, h456, h457, h458, h459, h460, h461, h462, h463, h464, h465, h466, h467⟩ := (show okX9 ad m_taped m_size x438 x439 x440 x441 x442 x443 y444 m_bank m_rb m_codes m_within m_piled m_unitsInRule m_askStrand m_askTied m_thoughtClaim m_thoughtNeed m_thoughtAll m_acts m_undone m_laid m_firstMove m_seens m_time m_waysNow m_fitting 148 (f 148) from hT.1 148 (by decide))
          refine va_get (D := D) (cl := vwCl) (ci := 9) (v := .ref (ad 157)) (C := RX9) (T := TX9) (N := 64) hx hb hts in_X9_readLine_X9 hown hK hP 148 (wl_at (by decide) e468) rfl 17 (by decide) (hts (.fieldLink RX9 39 "EightReasonsModel" "needs" "[I") (List.mem_of_getElem? (i := 8) rfl)) (fun _ h9 => h9) rfl dX9_readLine_79 ?_
          refine lv_bipush (v := 10) hx hb dX9_readLine_82 (by decide) ?_
          refine lv_aload_n hx hb dX9_readLine_84 rfl (lv_at hl 1 rfl) ?_
          refine va_get (D := D) (cl := vwCl) (ci := 9) (v := .int m_rb) (C := RX9) (T := TX9) (N := 64) hx hb hts in_X9_readLine_X9 hown hK hP 148 (wl_at (by decide) e468) rfl 30 (by decide) (hts (.fieldLink RX9 230 "EightReasonsModel" "rb" "I") (List.mem_of_getElem? (i := 6) rfl)) (fun _ h9 => h9) rfl dX9_readLine_85 ?_
          refine lv_imul hx hb dX9_readLine_88 ?_
          refine lv_topi (fun x469 ex469 => ?_)
          have hx469 := r_mull ex469 tl_10 (by omega) (by omega)
          refine lv_aload_n hx hb dX9_readLine_89 rfl (lv_at hl 1 rfl) ?_
          refine va_get (D := D) (cl := vwCl) (ci := 9) (v := .ref (ad 151)) (C := RX9) (T := TX9) (N := 64) hx hb hts in_X9_readLine_X9 hown hK hP 148 (wl_at (by decide) e468) rfl 11 (by decide) (hts (.fieldLink RX9 20 "EightReasonsModel" "points" "[I") (List.mem_of_getElem? (i := 7) rfl)) (fun _ h9 => h9) rfl dX9_readLine_90 ?_
          refine lv_aload_n hx hb dX9_readLine_93 rfl (lv_at hl 1 rfl) ?_
          refine va_get (D := D) (cl := vwCl) (ci := 9) (v := .int m_rb) (C := RX9) (T := TX9) (N := 64) hx hb hts in_X9_readLine_X9 hown hK hP 148 (wl_at (by decide) e468) rfl 30 (by decide) (hts (.fieldLink RX9 230 "EightReasonsModel" "rb" "I") (List.mem_of_getElem? (i := 6) rfl)) (fun _ h9 => h9) rfl dX9_readLine_94 ?_
          obtain ⟨e470, h471⟩ := (show okIpr cy 2 (0) (10) 1 0 c_points (f 151) from hT.1 151 (by decide))
          refine va_iald hx hb hK hP 151 0 (wl_at (by decide) e470) rfl (vp_in_iff.mpr ⟨by omega, by omega⟩) dX9_readLine_97 ?_
          refine lv_topi (fun x472 ex472 => ?_)
          have hx472 := r_el (h471 _ (Nat.mod_one _)) ex472
          have kx472 := congrArg Int32.toInt ex472
          have ha473 : 0 ≤ x472.toInt ∧ x472.toInt ≤ 9 := by omega
          refine lv_iadd hx hb dX9_readLine_98 ?_
          refine lv_topi (fun x474 ex474 => ?_)
          have hx474 := r_add ex474 (by omega) (by omega)
          refine lv_lload_n hx hb dX9_readLine_99 rfl (lv_at hl 0 rfl) ?_
          have ttlj_427020085613 := tlj_427020085613
          refine lv_ldc2 (v := 427020085613) hx hb hown (hts (.constantLong RX9 145 (427020085613)) (List.mem_of_getElem? (i := 4) rfl)) dX9_readLine_100 ?_
          refine lvcmp hx hb dX9_readLine_103 (fun x475 hx475 => ?_)
          refine lv_if_ne (tgt := 120) hx hb dX9_readLine_104 (by decide) (fun c476 => ?_) (fun c476 => ?_)
          · have kc476 := c_ne c476
            refine lv_iconst (v := 0) hx hb dX9_readLine_120 (by decide) ?_
            exact j121 f H locs ls x474 (0 : Int32) x438 x439 x440 x441 x442 x443 y444 (by omega) (by omega) (by omega) (by omega) (by omega) (hPV) (hFr) (hF_told) (hF_ruleFrom) (hF_ruleTo) (by omega) (by omega) hT hP hD hS (lv_sub hl [0, 1] rfl)
          · have kc476 := c_eq c476
            refine lv_aload_n hx hb dX9_readLine_107 rfl (lv_at hl 1 rfl) ?_
            have ttlj_474147546227 := tlj_474147546227
            refine lv_ldc2 (v := 474147546227) hx hb hown (hts (.constantLong RX9 147 (474147546227)) (List.mem_of_getElem? (i := 9) rfl)) dX9_readLine_108 ?_
            refine lv_iconst (v := 1) hx hb dX9_readLine_111 (by decide) ?_
            refine lv_bipush (v := 99) hx hb dX9_readLine_112 (by decide) ?_
            have ttl_1 := tl_1
            have ttl_99 := tl_99
            refine tVI (As := [.long 474147546227, .int 1, .int 99]) (rest := [.int x474, .ref (ad 157)]) (i := 148) ⟨hx, hb, hml, hown, hts⟩ hK hE hP hD hS hA hAB (s_X9_after_0 l B0 adK adV D cy ad fr0 c_text m_taped m_size x438 x439 x440 x441 x442 x443 y444 c_points c_strands c_units c_told c_ruleFrom c_ruleTo c_code c_eWhat c_eSign m_bank m_rb m_codes m_within m_piled m_unitsInRule m_askStrand m_askTied m_thoughtClaim m_thoughtNeed m_thoughtAll c_roundOf m_acts m_undone m_laid m_firstMove m_seens m_time m_waysNow m_fitting f hT (474147546227 : Int64) (1 : Int32) (by omega) (99 : Int32) (by omega) (by omega) (by omega) _) (cwV 3 hts gX9_readLine_X9_after rfl rfl rfl (by decide +kernel) ⟨Nat.le_of_ble_eq_true rfl, Nat.le_of_ble_eq_true rfl⟩) (by decide) 9 e468 rfl rfl hl.1 rfl (Nat.le_of_ble_eq_true rfl) dX9_readLine_114 ⟨Nat.le_of_ble_eq_true rfl, Nat.le_of_ble_eq_true rfl⟩ (fun r f H locs hw hP hD hS => ?_)
            obtain ⟨hrs, x477, x478, x479, x480, x481, x482, y483, hT, h484, h485, h486⟩ := hw
            obtain ⟨x487, rfl⟩ : ∃ q, q = r := ⟨_, rfl⟩
            have h488 := hrs
            refine lv_goto (tgt := 121) hx hb dX9_readLine_117 (by decide) ?_
            obtain ⟨e504, h489, h490, h491, h492, h493, h494, h495, h496, h497, h498, h499, h500, h501, h502, h503⟩ := (show okX9 ad m_taped m_size x477 x478 x479 x480 x481 x482 y483 m_bank m_rb m_codes m_within m_piled m_unitsInRule m_askStrand m_askTied m_thoughtClaim m_thoughtNeed m_thoughtAll m_acts m_undone m_laid m_firstMove m_seens m_time m_waysNow m_fitting 148 (f 148) from hT.1 148 (by decide))
            exact j121 f H locs ls x474 x487 x477 x478 x479 x480 x481 x482 y483 (by omega) (by omega) (by omega) (by omega) (by omega) (hPV) (hFr) (hF_told) (hF_ruleFrom) (hF_ruleTo) (by omega) (by omega) hT hP hD hS (lv_sub hl [0, 1] rfl)
        · have kc415 := c_ne c415
          refine lv_lload_n hx hb dX9_readLine_44 rfl (lv_at hl 0 rfl) ?_
          have ttlj_427020085613 := tlj_427020085613
          refine lv_ldc2 (v := 427020085613) hx hb hown (hts (.constantLong RX9 145 (427020085613)) (List.mem_of_getElem? (i := 4) rfl)) dX9_readLine_45 ?_
          refine lvcmp hx hb dX9_readLine_48 (fun x505 hx505 => ?_)
          refine lv_if_ne (tgt := 135) hx hb dX9_readLine_49 (by decide) (fun c506 => ?_) (fun c506 => ?_)
          · have kc506 := c_ne c506
            obtain ⟨e522, h507, h508, h509, h510, h511, h512, h513, h514, h515, h516, h517, h518, h519, h520, h521⟩ := (show okX9 ad m_taped m_size m_faultKind m_faultPlace x406 x407 x408 x409 y410 m_bank m_rb m_codes m_within m_piled m_unitsInRule m_askStrand m_askTied m_thoughtClaim m_thoughtNeed m_thoughtAll m_acts m_undone m_laid m_firstMove m_seens m_time m_waysNow m_fitting 148 (f 148) from hT.1 148 (by decide))
            exact j135 f H locs ls m_faultKind m_faultPlace x406 x407 x408 x409 y410 c_points (by omega) (by omega) (by omega) (by omega) (hPV) (hFr) (hF_told) (hF_ruleFrom) (hF_ruleTo) (by omega) (by omega) hT hP hD hS (lv_sub hl [0, 1] rfl)
          · have kc506 := c_eq c506
            refine lv_aload_n hx hb dX9_readLine_52 rfl (lv_at hl 1 rfl) ?_
            obtain ⟨e538, h523, h524, h525, h526, h527, h528, h529, h530, h531, h532, h533, h534, h535, h536, h537⟩ := (show okX9 ad m_taped m_size m_faultKind m_faultPlace x406 x407 x408 x409 y410 m_bank m_rb m_codes m_within m_piled m_unitsInRule m_askStrand m_askTied m_thoughtClaim m_thoughtNeed m_thoughtAll m_acts m_undone m_laid m_firstMove m_seens m_time m_waysNow m_fitting 148 (f 148) from hT.1 148 (by decide))
            refine va_get (D := D) (cl := vwCl) (ci := 9) (v := .ref (ad 163)) (C := RX9) (T := TX9) (N := 64) hx hb hts in_X9_readLine_X9 hown hK hP 148 (wl_at (by decide) e538) rfl 23 (by decide) (hts (.fieldLink RX9 57 "EightReasonsModel" "pName" "[J") (List.mem_of_getElem? (i := 5) rfl)) (fun _ h9 => h9) rfl dX9_readLine_53 ?_
            refine lv_bipush (v := 10) hx hb dX9_readLine_56 (by decide) ?_
            refine lv_aload_n hx hb dX9_readLine_58 rfl (lv_at hl 1 rfl) ?_
            refine va_get (D := D) (cl := vwCl) (ci := 9) (v := .int m_rb) (C := RX9) (T := TX9) (N := 64) hx hb hts in_X9_readLine_X9 hown hK hP 148 (wl_at (by decide) e538) rfl 30 (by decide) (hts (.fieldLink RX9 230 "EightReasonsModel" "rb" "I") (List.mem_of_getElem? (i := 6) rfl)) (fun _ h9 => h9) rfl dX9_readLine_59 ?_
            refine lv_imul hx hb dX9_readLine_62 ?_
            refine lv_topi (fun x539 ex539 => ?_)
            have hx539 := r_mull ex539 tl_10 (by omega) (by omega)
            refine lv_aload_n hx hb dX9_readLine_63 rfl (lv_at hl 1 rfl) ?_
            refine va_get (D := D) (cl := vwCl) (ci := 9) (v := .ref (ad 151)) (C := RX9) (T := TX9) (N := 64) hx hb hts in_X9_readLine_X9 hown hK hP 148 (wl_at (by decide) e538) rfl 11 (by decide) (hts (.fieldLink RX9 20 "EightReasonsModel" "points" "[I") (List.mem_of_getElem? (i := 7) rfl)) (fun _ h9 => h9) rfl dX9_readLine_64 ?_
            refine lv_aload_n hx hb dX9_readLine_67 rfl (lv_at hl 1 rfl) ?_
            refine va_get (D := D) (cl := vwCl) (ci := 9) (v := .int m_rb) (C := RX9) (T := TX9) (N := 64) hx hb hts in_X9_readLine_X9 hown hK hP 148 (wl_at (by decide) e538) rfl 30 (by decide) (hts (.fieldLink RX9 230 "EightReasonsModel" "rb" "I") (List.mem_of_getElem? (i := 6) rfl)) (fun _ h9 => h9) rfl dX9_readLine_68 ?_
            obtain ⟨e540, h541⟩ := (show okIpr cy 2 (0) (10) 1 0 c_points (f 151) from hT.1 151 (by decide))
            refine va_iald hx hb hK hP 151 0 (wl_at (by decide) e540) rfl (vp_in_iff.mpr ⟨by omega, by omega⟩) dX9_readLine_71 ?_
            refine lv_topi (fun x542 ex542 => ?_)
            have hx542 := r_el (h541 _ (Nat.mod_one _)) ex542
            have kx542 := congrArg Int32.toInt ex542
            have ha543 : 0 ≤ x542.toInt ∧ x542.toInt ≤ 9 := by omega
            refine lv_iadd hx hb dX9_readLine_72 ?_
            refine lv_topi (fun x544 ex544 => ?_)
            have hx544 := r_add ex544 (by omega) (by omega)
            refine lv_aload_n hx hb dX9_readLine_73 rfl (lv_at hl 1 rfl) ?_
            refine tVL (As := []) (rest := [.int x544, .ref (ad 163)]) (i := 148) ⟨hx, hb, hml, hown, hts⟩ hK hE hP hD hS hA hAB (s_X9_fresh_0 l B0 adK adV D cy ad fr0 c_text m_taped m_size m_faultKind m_faultPlace x406 x407 x408 x409 y410 c_points c_strands c_units c_told c_ruleFrom c_ruleTo c_code c_eWhat c_eSign m_bank m_rb m_codes m_within m_piled m_unitsInRule m_askStrand m_askTied m_thoughtClaim m_thoughtNeed m_thoughtAll c_roundOf m_acts m_undone m_laid m_firstMove m_seens m_time m_waysNow m_fitting f hT (by omega) (by omega) _) (cwV 0 hts gX9_readLine_X9_fresh rfl rfl rfl (by decide +kernel) ⟨Nat.le_of_ble_eq_true rfl, Nat.le_of_ble_eq_true rfl⟩) (by decide) 9 e538 rfl rfl hl.1 rfl (Nat.le_of_ble_eq_true rfl) dX9_readLine_74 ⟨Nat.le_of_ble_eq_true rfl, Nat.le_of_ble_eq_true rfl⟩ (fun r f H locs hw hP hD hS => ?_)
            obtain ⟨hrs, x545, x546, x547, x548, x549, x550, y551, hT, h552, h553, h554⟩ := hw
            obtain ⟨y555, rfl⟩ : ∃ q, q = r := ⟨_, rfl⟩
            obtain ⟨g557, e556⟩ := (show okJ cy 20 (f 163) from hT.1 163 (by decide))
            refine va_last hx hb hK hP hD hS 163 2 (wl_at (by decide) e556) rfl (vp_in_iff.mpr ⟨by omega, by omega⟩) dX9_readLine_77 (fun H locs hP hD hS => ?_)
            obtain ⟨f, hT, hP, hD, e558, hj559⟩ := stU (by decide) (TYm.up hT (by decide) (show OKm ad cy c_text m_taped m_size x545 x546 x547 x548 x549 x550 y551 c_points c_strands c_units c_told c_ruleFrom c_ruleTo c_code c_eWhat c_eSign m_bank m_rb m_codes m_within m_piled m_unitsInRule m_askStrand m_askTied m_thoughtClaim m_thoughtNeed m_thoughtAll c_roundOf m_acts m_undone m_laid m_firstMove m_seens m_time m_waysNow m_fitting 163 _ from (show okJ cy 20 _ from ⟨_, rfl⟩))) hP hD
            refine lv_aload_n hx hb dX9_readLine_78 rfl (lv_at hl 1 rfl) ?_
            obtain ⟨e575, h560, h561, h562, h563, h564, h565, h566, h567, h568, h569, h570, h571, h572, h573, h574⟩ := (show okX9 ad m_taped m_size x545 x546 x547 x548 x549 x550 y551 m_bank m_rb m_codes m_within m_piled m_unitsInRule m_askStrand m_askTied m_thoughtClaim m_thoughtNeed m_thoughtAll m_acts m_undone m_laid m_firstMove m_seens m_time m_waysNow m_fitting 148 (f 148) from hT.1 148 (by decide))
            refine va_get (D := D) (cl := vwCl) (ci := 9) (v := .ref (ad 157)) (C := RX9) (T := TX9) (N := 64) hx hb hts in_X9_readLine_X9 hown hK hP 148 (wl_at (by decide) e575) rfl 17 (by decide) (hts (.fieldLink RX9 39 "EightReasonsModel" "needs" "[I") (List.mem_of_getElem? (i := 8) rfl)) (fun _ h9 => h9) rfl dX9_readLine_79 ?_
            refine lv_bipush (v := 10) hx hb dX9_readLine_82 (by decide) ?_
            refine lv_aload_n hx hb dX9_readLine_84 rfl (lv_at hl 1 rfl) ?_
            refine va_get (D := D) (cl := vwCl) (ci := 9) (v := .int m_rb) (C := RX9) (T := TX9) (N := 64) hx hb hts in_X9_readLine_X9 hown hK hP 148 (wl_at (by decide) e575) rfl 30 (by decide) (hts (.fieldLink RX9 230 "EightReasonsModel" "rb" "I") (List.mem_of_getElem? (i := 6) rfl)) (fun _ h9 => h9) rfl dX9_readLine_85 ?_
            refine lv_imul hx hb dX9_readLine_88 ?_
            refine lv_topi (fun x576 ex576 => ?_)
            have hx576 := r_mull ex576 tl_10 (by omega) (by omega)
            refine lv_aload_n hx hb dX9_readLine_89 rfl (lv_at hl 1 rfl) ?_
            refine va_get (D := D) (cl := vwCl) (ci := 9) (v := .ref (ad 151)) (C := RX9) (T := TX9) (N := 64) hx hb hts in_X9_readLine_X9 hown hK hP 148 (wl_at (by decide) e575) rfl 11 (by decide) (hts (.fieldLink RX9 20 "EightReasonsModel" "points" "[I") (List.mem_of_getElem? (i := 7) rfl)) (fun _ h9 => h9) rfl dX9_readLine_90 ?_
            refine lv_aload_n hx hb dX9_readLine_93 rfl (lv_at hl 1 rfl) ?_
            refine va_get (D := D) (cl := vwCl) (ci := 9) (v := .int m_rb) (C := RX9) (T := TX9) (N := 64) hx hb hts in_X9_readLine_X9 hown hK hP 148 (wl_at (by decide) e575) rfl 30 (by decide) (hts (.fieldLink RX9 230 "EightReasonsModel" "rb" "I") (List.mem_of_getElem? (i := 6) rfl)) (fun _ h9 => h9) rfl dX9_readLine_94 ?_
            obtain ⟨e577, h578⟩ := (show okIpr cy 2 (0) (10) 1 0 c_points (f 151) from hT.1 151 (by decide))
            refine va_iald hx hb hK hP 151 0 (wl_at (by decide) e577) rfl (vp_in_iff.mpr ⟨by omega, by omega⟩) dX9_readLine_97 ?_
            refine lv_topi (fun x579 ex579 => ?_)
            have hx579 := r_el (h578 _ (Nat.mod_one _)) ex579
            have kx579 := congrArg Int32.toInt ex579
            have ha580 : 0 ≤ x579.toInt ∧ x579.toInt ≤ 9 := by omega
            refine lv_iadd hx hb dX9_readLine_98 ?_
            refine lv_topi (fun x581 ex581 => ?_)
            have hx581 := r_add ex581 (by omega) (by omega)
            refine lv_lload_n hx hb dX9_readLine_99 rfl (lv_at hl 0 rfl) ?_
            refine lv_ldc2 (v := 427020085613) hx hb hown (hts (.constantLong RX9 145 (427020085613)) (List.mem_of_getElem? (i := 4) rfl)) dX9_readLine_100 ?_
            refine lvcmp hx hb dX9_readLine_103 (fun x582 hx582 => ?_)
            refine lv_if_ne (tgt := 120) hx hb dX9_readLine_104 (by decide) (fun c583 => ?_) (fun c583 => ?_)
            · have kc583 := c_ne c583
              refine lv_iconst (v := 0) hx hb dX9_readLine_120 (by decide) ?_
              exact j121 f H locs ls x581 (0 : Int32) x545 x546 x547 x548 x549 x550 y551 (by omega) (by omega) (by omega) (by omega) (by omega) (hPV) (hFr) (hF_told) (hF_ruleFrom) (hF_ruleTo) (by omega) (by omega) hT hP hD hS (lv_sub hl [0, 1] rfl)
            · have kc583 := c_eq c583
              refine lv_aload_n hx hb dX9_readLine_107 rfl (lv_at hl 1 rfl) ?_
              have ttlj_474147546227 := tlj_474147546227
              refine lv_ldc2 (v := 474147546227) hx hb hown (hts (.constantLong RX9 147 (474147546227)) (List.mem_of_getElem? (i := 9) rfl)) dX9_readLine_108 ?_
              refine lv_iconst (v := 1) hx hb dX9_readLine_111 (by decide) ?_
              refine lv_bipush (v := 99) hx hb dX9_readLine_112 (by decide) ?_
              have ttl_1 := tl_1
              have ttl_99 := tl_99
              refine tVI (As := [.long 474147546227, .int 1, .int 99]) (rest := [.int x581, .ref (ad 157)]) (i := 148) ⟨hx, hb, hml, hown, hts⟩ hK hE hP hD hS hA hAB (s_X9_after_0 l B0 adK adV D cy ad fr0 c_text m_taped m_size x545 x546 x547 x548 x549 x550 y551 c_points c_strands c_units c_told c_ruleFrom c_ruleTo c_code c_eWhat c_eSign m_bank m_rb m_codes m_within m_piled m_unitsInRule m_askStrand m_askTied m_thoughtClaim m_thoughtNeed m_thoughtAll c_roundOf m_acts m_undone m_laid m_firstMove m_seens m_time m_waysNow m_fitting f hT (474147546227 : Int64) (1 : Int32) (by omega) (99 : Int32) (by omega) (by omega) (by omega) _) (cwV 3 hts gX9_readLine_X9_after rfl rfl rfl (by decide +kernel) ⟨Nat.le_of_ble_eq_true rfl, Nat.le_of_ble_eq_true rfl⟩) (by decide) 9 e575 rfl rfl hl.1 rfl (Nat.le_of_ble_eq_true rfl) dX9_readLine_114 ⟨Nat.le_of_ble_eq_true rfl, Nat.le_of_ble_eq_true rfl⟩ (fun r f H locs hw hP hD hS => ?_)
              obtain ⟨hrs, x584, x585, x586, x587, x588, x589, y590, hT, h591, h592, h593⟩ := hw
              obtain ⟨x594, rfl⟩ : ∃ q, q = r := ⟨_, rfl⟩
              have h595 := hrs
              refine lv_goto (tgt := 121) hx hb dX9_readLine_117 (by decide) ?_
              obtain ⟨e611, h596, h597, h598, h599, h600, h601, h602, h603, h604, h605, h606, h607, h608, h609, h610⟩ := (show okX9 ad m_taped m_size x584 x585 x586 x587 x588 x589 y590 m_bank m_rb m_codes m_within m_piled m_unitsInRule m_askStrand m_askTied m_thoughtClaim m_thoughtNeed m_thoughtAll m_acts m_undone m_laid m_firstMove m_seens m_time m_waysNow m_fitting 148 (f 148) from hT.1 148 (by decide))
              exact j121 f H locs ls x581 x594 x584 x585 x586 x587 x588 x589 y590 (by omega) (by omega) (by omega) (by omega) (by omega) (hPV) (hFr) (hF_told) (hF_ruleFrom) (hF_ruleTo) (by omega) (by omega) hT hP hD hS (lv_sub hl [0, 1] rfl)
      · refine lv_if_ne (tgt := 32) hx hb dX9_readLine_28 (by decide) (fun c => absurd (by decide) c) (fun _ => ?_)
        exact tV hx hb hr hlk hP hS ⟨trivial, ⟨m_faultKind, m_faultPlace, m_at, m_end, m_token, m_number, m_name, c_points, c_strands, c_units, c_told, c_ruleFrom, c_ruleTo, c_code, c_eWhat, c_eSign, m_codes, m_within, m_piled, m_unitsInRule, hT, by omega, by omega, by omega, by omega, hPV, hFr, hF_told, hF_ruleFrom, hF_ruleTo⟩⟩ dX9_readLine_31
