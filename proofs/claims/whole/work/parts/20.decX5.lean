set_option maxRecDepth 20000 in
theorem ggX5_init_X6_init : GoodIn wsX5_init wsX6_init := goodIn_r _ [15, 16, 2, 3, 17, 18, 19, 20, 21, 22, 23, 24, 25, 26, 27, 28, 12, 29, 30, 31, 32, 33, 34, 35, 36, 37, 38, 39, 40, 41, 42, 43, 44, 45, 46, 47, 48, 78, 79, 80, 81, 82, 83, 55, 56, 57, 58, 59, 84, 85, 86, 87, 88, 89, 90, 91, 92, 93, 94] (by decide +kernel) (by decide +kernel)
set_option maxRecDepth 20000 in
theorem gX5_init_X6_init_n11 : GoodIn wsX5_init (wsX6_init) := ggX5_init_X6_init
set_option maxRecDepth 20000 in
theorem ggX5_init_X7_init : GoodIn wsX5_init wsX7_init := goodIn_r _ [50, 51, 2, 3, 12, 52, 53, 54, 74, 75, 76, 77] (by decide +kernel) (by decide +kernel)
set_option maxRecDepth 20000 in
theorem gX5_init_X7_init_n20 : GoodIn wsX5_init (wsX7_init) := ggX5_init_X7_init
theorem dX5_init_0 : decode cX5_init 0 = .ok (.aload_n 0, 1) := by decide +kernel
theorem dX5_init_1 : decode cX5_init 1 = .ok (.invokespecial 3, 3) := by decide +kernel
theorem dX5_init_4 : decode cX5_init 4 = .ok (.aload_n 0, 1) := by decide +kernel
theorem dX5_init_5 : decode cX5_init 5 = .ok (.new 9, 3) := by decide +kernel
theorem dX5_init_8 : decode cX5_init 8 = .ok (.dup, 1) := by decide +kernel
theorem dX5_init_9 : decode cX5_init 9 = .ok (.invokespecial 11, 3) := by decide +kernel
theorem dX5_init_12 : decode cX5_init 12 = .ok (.putfield 12, 3) := by decide +kernel
theorem dX5_init_15 : decode cX5_init 15 = .ok (.aload_n 0, 1) := by decide +kernel
theorem dX5_init_16 : decode cX5_init 16 = .ok (.new 18, 3) := by decide +kernel
theorem dX5_init_19 : decode cX5_init 19 = .ok (.dup, 1) := by decide +kernel
theorem dX5_init_20 : decode cX5_init 20 = .ok (.invokespecial 20, 3) := by decide +kernel
theorem dX5_init_23 : decode cX5_init 23 = .ok (.putfield 21, 3) := by decide +kernel
theorem dX5_init_26 : decode cX5_init 26 = .ok (.aload_n 0, 1) := by decide +kernel
theorem dX5_init_27 : decode cX5_init 27 = .ok (.sipush 500, 3) := by decide +kernel
theorem dX5_init_30 : decode cX5_init 30 = .ok (.newarray .int, 2) := by decide +kernel
theorem dX5_init_32 : decode cX5_init 32 = .ok (.putfield 25, 3) := by decide +kernel
theorem dX5_init_35 : decode cX5_init 35 = .ok (.return_, 1) := by decide +kernel
theorem dX5_addByte_0 : decode cX5_addByte 0 = .ok (.aload_n 0, 1) := by decide +kernel
theorem dX5_addByte_1 : decode cX5_addByte 1 = .ok (.getfield 29, 3) := by decide +kernel
theorem dX5_addByte_4 : decode cX5_addByte 4 = .ok (.sipush 500, 3) := by decide +kernel
theorem dX5_addByte_7 : decode cX5_addByte 7 = .ok (.if_icmp .ge 23, 3) := by decide +kernel
theorem dX5_addByte_10 : decode cX5_addByte 10 = .ok (.aload_n 0, 1) := by decide +kernel
theorem dX5_addByte_11 : decode cX5_addByte 11 = .ok (.getfield 25, 3) := by decide +kernel
theorem dX5_addByte_14 : decode cX5_addByte 14 = .ok (.aload_n 0, 1) := by decide +kernel
theorem dX5_addByte_15 : decode cX5_addByte 15 = .ok (.getfield 29, 3) := by decide +kernel
theorem dX5_addByte_18 : decode cX5_addByte 18 = .ok (.iload_n 1, 1) := by decide +kernel
theorem dX5_addByte_19 : decode cX5_addByte 19 = .ok (.iastore, 1) := by decide +kernel
theorem dX5_addByte_20 : decode cX5_addByte 20 = .ok (.aload_n 0, 1) := by decide +kernel
theorem dX5_addByte_21 : decode cX5_addByte 21 = .ok (.dup, 1) := by decide +kernel
theorem dX5_addByte_22 : decode cX5_addByte 22 = .ok (.getfield 29, 3) := by decide +kernel
theorem dX5_addByte_25 : decode cX5_addByte 25 = .ok (.iconst 1, 1) := by decide +kernel
theorem dX5_addByte_26 : decode cX5_addByte 26 = .ok (.iadd, 1) := by decide +kernel
theorem dX5_addByte_27 : decode cX5_addByte 27 = .ok (.putfield 29, 3) := by decide +kernel
theorem dX5_addByte_30 : decode cX5_addByte 30 = .ok (.return_, 1) := by decide +kernel
set_option maxRecDepth 20000 in
theorem ggX5_readText_X5_readChart : GoodIn wsX5_readText wsX5_readChart := goodIn_r _ [11, 12, 13, 14, 15, 16, 17, 10, 18, 1, 6, 19, 20, 21, 22, 23, 24, 25, 26, 27, 28, 29, 30, 31, 32, 33, 34, 35, 3, 4, 36, 37, 38, 39, 40, 41, 42, 43, 44, 45, 46, 47, 48, 49, 50, 51, 52, 53, 54, 55, 56, 57, 58, 59, 60, 61, 62, 63, 64, 65, 66, 67, 68, 69, 70, 71, 72, 73, 74, 75, 76, 77, 78, 79, 80, 81, 82, 83, 84, 85, 86, 87, 88, 89, 90, 91, 92, 93, 94, 95, 96, 97, 98, 99, 100, 101, 102, 103, 104, 105, 106, 107, 108, 109, 110, 111, 112, 113, 114, 115, 116, 117, 118, 119, 120, 121, 122, 123, 124, 125, 126, 127, 128, 129, 130, 131, 132, 133, 134, 135, 136, 137, 353, 354, 355, 356, 357, 358, 359, 360, 361, 362, 363, 364, 365, 366, 367, 368, 369, 370, 371, 372, 373, 374, 375, 376, 377, 378, 379, 380, 381, 382, 383, 384, 385, 386, 387, 388] (by decide +kernel) (by decide +kernel)
set_option maxRecDepth 20000 in
theorem gX5_readText_X5_readChart : GoodIn wsX5_readText (wsV RX5 49 RX5 yX5_readChart wsX5_readChart) := goodIn_app (goodIn_of _ (by decide +kernel)) ggX5_readText_X5_readChart
set_option maxRecDepth 20000 in
theorem ggX5_readText_X5_nextSign : GoodIn wsX5_readText wsX5_nextSign := goodIn_r _ [23, 6, 1, 24, 25, 26, 10, 27, 28, 353, 354, 355, 356, 357, 358, 359, 360, 361, 362, 363, 364, 365, 366] (by decide +kernel) (by decide +kernel)
set_option maxRecDepth 20000 in
theorem gX5_readText_X5_nextSign : GoodIn wsX5_readText (wsV RX5 53 RX5 yX5_nextSign wsX5_nextSign) := goodIn_app (goodIn_of _ (by decide +kernel)) ggX5_readText_X5_nextSign
set_option maxRecDepth 20000 in
theorem ggX5_readText_X5_takeSemicolon : GoodIn wsX5_readText wsX5_takeSemicolon := goodIn_r _ [141, 1, 2, 20, 21, 22, 10, 23, 6, 24, 25, 26, 27, 28, 32, 33, 34, 35, 3, 4, 353, 354, 355, 356, 357, 358, 359, 360, 361, 362, 363, 364, 365, 366] (by decide +kernel) (by decide +kernel)
set_option maxRecDepth 20000 in
theorem gX5_readText_X5_takeSemicolon : GoodIn wsX5_readText (wsV RX5 57 RX5 yX5_takeSemicolon wsX5_takeSemicolon) := goodIn_app (goodIn_of _ (by decide +kernel)) ggX5_readText_X5_takeSemicolon
set_option maxRecDepth 20000 in
theorem ggX5_readText_X5_takeKeyword : GoodIn wsX5_readText wsX5_takeKeyword := goodIn_r _ [145, 12, 15, 16, 17, 10, 18, 1, 6, 19, 20, 21, 22, 23, 24, 25, 26, 27, 28, 29, 30, 31, 32, 33, 34, 35, 3, 4, 36, 37, 38, 39, 40, 41, 42, 43, 44, 45, 46, 47, 48, 49, 50, 51, 52, 53, 54, 55, 56, 57, 58, 59, 60, 61, 62, 63, 64, 65, 66, 67, 68, 69, 70, 71, 72, 73, 74, 75, 76, 77, 78, 79, 80, 81, 82, 83, 84, 85, 86, 87, 88, 353, 354, 355, 356, 357, 358, 359, 360, 361, 362, 363, 364, 365, 366] (by decide +kernel) (by decide +kernel)
set_option maxRecDepth 20000 in
theorem gX5_readText_X5_takeKeyword : GoodIn wsX5_readText (wsV RX5 60 RX5 yX5_takeKeyword wsX5_takeKeyword) := goodIn_app (goodIn_of _ (by decide +kernel)) ggX5_readText_X5_takeKeyword
set_option maxRecDepth 20000 in
theorem ggX5_readText_X5_readLand : GoodIn wsX5_readText wsX5_readLand := goodIn_r _ [149, 14, 12, 150, 13, 151, 152, 96, 153, 32, 33, 34, 10, 35, 3, 4, 154, 155, 156, 157, 89, 90, 91, 92, 1, 93, 6, 94, 95, 97, 20, 21, 22, 23, 24, 25, 26, 27, 28, 98, 99, 100, 158, 159, 160, 114, 161, 119, 353, 354, 355, 356, 357, 358, 359, 360, 361, 362, 363, 364, 365, 366, 367, 368, 369, 370, 371, 378, 379, 380, 381, 382, 383, 372, 373, 374, 375, 376, 377] (by decide +kernel) (by decide +kernel)
set_option maxRecDepth 20000 in
theorem gX5_readText_X5_readLand : GoodIn wsX5_readText (wsV RX5 63 RX5 yX5_readLand wsX5_readLand) := goodIn_app (goodIn_of _ (by decide +kernel)) ggX5_readText_X5_readLand
set_option maxRecDepth 20000 in
theorem ggX5_readText_X5_readHarbour : GoodIn wsX5_readText wsX5_readHarbour := goodIn_r _ [165, 14, 12, 19, 150, 93, 28, 32, 33, 34, 10, 35, 3, 4, 166, 167, 168, 169, 15, 16, 17, 18, 1, 6, 20, 21, 22, 23, 24, 25, 26, 27, 29, 30, 31, 170, 171, 172, 173, 174, 175, 176, 125, 177, 127, 178, 179, 180, 181, 182, 183, 184, 154, 155, 156, 157, 13, 89, 90, 91, 92, 94, 95, 96, 97, 98, 99, 100, 185, 186, 187, 104, 188, 106, 107, 189, 190, 191, 114, 192, 119, 193, 194, 195, 196, 120, 197, 198, 199, 200, 201, 202, 203, 204, 205, 109, 206, 207, 208, 209, 210, 211, 212, 213, 116, 117, 214, 215, 216, 217, 218, 219, 220, 221, 222, 223, 224, 36, 37, 38, 39, 40, 41, 42, 43, 44, 45, 46, 47, 48, 49, 50, 51, 52, 53, 54, 55, 56, 57, 58, 59, 60, 61, 62, 63, 64, 65, 66, 67, 68, 69, 70, 71, 72, 73, 74, 75, 76, 77, 78, 79, 80, 81, 82, 83, 84, 85, 86, 87, 88, 225, 226, 227, 228, 128, 353, 354, 355, 356, 357, 358, 359, 360, 361, 362, 363, 364, 365, 366, 367, 368, 369, 370, 371, 378, 379, 380, 381, 382, 383, 372, 373, 374, 375, 376, 377] (by decide +kernel) (by decide +kernel)
set_option maxRecDepth 20000 in
theorem gX5_readText_X5_readHarbour : GoodIn wsX5_readText (wsV RX5 66 RX5 yX5_readHarbour wsX5_readHarbour) := goodIn_app (goodIn_of _ (by decide +kernel)) ggX5_readText_X5_readHarbour
set_option maxRecDepth 20000 in
theorem ggX5_readText_X5_readRiver : GoodIn wsX5_readText wsX5_readRiver := goodIn_r _ [232, 14, 12, 233, 150, 93, 32, 33, 34, 10, 35, 3, 4, 154, 155, 156, 157, 13, 89, 90, 91, 92, 1, 6, 94, 95, 96, 97, 20, 21, 22, 23, 24, 25, 26, 27, 28, 98, 99, 100, 234, 235, 236, 237, 238, 239, 240, 241, 242, 243, 244, 114, 245, 116, 117, 246, 186, 187, 104, 188, 106, 107, 189, 190, 191, 192, 119, 193, 194, 195, 196, 120, 197, 198, 199, 125, 200, 127, 201, 247, 203, 204, 205, 109, 248, 249, 250, 251, 210, 211, 212, 213, 214, 252, 253, 254, 255, 256, 257, 258, 259, 260, 261, 262, 263, 264, 265, 266, 267, 268, 269, 270, 271, 272, 273, 274, 275, 276, 277, 278, 279, 280, 281, 282, 283, 284, 285, 286, 287, 288, 289, 290, 291, 292, 293, 294, 295, 219, 296, 175, 176, 177, 178, 297, 298, 299, 300, 301, 302, 303, 304, 305, 118, 121, 353, 354, 355, 356, 357, 358, 359, 360, 361, 362, 363, 364, 365, 366, 367, 368, 369, 370, 371, 372, 373, 374, 375, 376, 377, 389, 390, 391, 392, 378, 379, 380, 381, 382, 383] (by decide +kernel) (by decide +kernel)
set_option maxRecDepth 20000 in
theorem gX5_readText_X5_readRiver : GoodIn wsX5_readText (wsV RX5 69 RX5 yX5_readRiver wsX5_readRiver) := goodIn_app (goodIn_of _ (by decide +kernel)) ggX5_readText_X5_readRiver
set_option maxRecDepth 20000 in
theorem ggX5_readText_X5_readPlace : GoodIn wsX5_readText wsX5_readPlace := goodIn_r _ [309, 12, 14, 166, 167, 168, 10, 169, 19, 15, 16, 17, 18, 1, 6, 20, 21, 22, 23, 24, 25, 26, 27, 28, 29, 30, 31, 32, 33, 34, 35, 3, 4, 170, 171, 172, 173, 174, 175, 176, 125, 177, 127, 178, 179, 180, 181, 182, 183, 184, 310, 311, 312, 313, 36, 37, 38, 39, 40, 41, 42, 43, 44, 45, 46, 47, 48, 49, 50, 51, 52, 53, 54, 55, 56, 57, 58, 59, 60, 61, 62, 63, 64, 65, 66, 67, 68, 69, 70, 71, 72, 73, 74, 75, 76, 77, 78, 79, 80, 81, 82, 83, 84, 85, 86, 87, 88, 314, 315, 316, 104, 317, 318, 319, 320, 321, 107, 106, 288, 289, 290, 291, 201, 297, 211, 212, 114, 213, 116, 117, 189, 190, 191, 192, 119, 296, 322, 323, 324, 325, 193, 194, 195, 196, 120, 197, 198, 199, 200, 326, 327, 328, 329, 330, 203, 204, 205, 109, 331, 332, 333, 334, 110, 335, 336, 337, 338, 339, 284, 285, 286, 287, 292, 293, 294, 295, 219, 298, 299, 300, 301, 353, 354, 355, 356, 357, 358, 359, 360, 361, 362, 363, 364, 365, 366, 367, 368, 369, 370, 371, 378, 379, 380, 381, 382, 383, 372, 373, 374, 375, 376, 377] (by decide +kernel) (by decide +kernel)
set_option maxRecDepth 20000 in
theorem gX5_readText_X5_readPlace : GoodIn wsX5_readText (wsV RX5 72 RX5 yX5_readPlace wsX5_readPlace) := goodIn_app (goodIn_of _ (by decide +kernel)) ggX5_readText_X5_readPlace
set_option maxRecDepth 20000 in
theorem ggX5_readText_X5_readVoyage : GoodIn wsX5_readText wsX5_readVoyage := goodIn_r _ [343, 5, 12, 14, 32, 33, 34, 10, 35, 3, 4, 20, 21, 22, 23, 6, 1, 24, 25, 26, 27, 28, 29, 30, 31, 166, 167, 168, 169, 19, 15, 16, 17, 18, 170, 171, 172, 173, 174, 175, 176, 125, 177, 127, 178, 179, 180, 181, 182, 183, 184, 344, 345, 346, 132, 347, 134, 348, 353, 354, 355, 356, 357, 358, 359, 360, 361, 362, 363, 364, 365, 366, 367, 368, 369, 370, 371, 378, 379, 380, 381, 382, 383, 384, 385, 386, 387, 388] (by decide +kernel) (by decide +kernel)
set_option maxRecDepth 20000 in
theorem gX5_readText_X5_readVoyage : GoodIn wsX5_readText (wsV RX5 75 RX5 yX5_readVoyage wsX5_readVoyage) := goodIn_app (goodIn_of _ (by decide +kernel)) ggX5_readText_X5_readVoyage
set_option maxRecDepth 20000 in
theorem ggX5_readText_X5_readTurn : GoodIn wsX5_readText wsX5_readTurn := goodIn_r _ [352, 14, 13, 89, 90, 91, 10, 92, 1, 93, 6, 94, 95, 96, 97, 20, 21, 22, 23, 24, 25, 26, 27, 28, 98, 99, 100, 32, 33, 34, 35, 3, 4, 353, 354, 355, 356, 357, 358, 359, 360, 361, 362, 363, 364, 365, 366, 367, 368, 369, 370, 371, 384, 385, 386, 387, 388] (by decide +kernel) (by decide +kernel)
set_option maxRecDepth 20000 in
theorem gX5_readText_X5_readTurn : GoodIn wsX5_readText (wsV RX5 78 RX5 yX5_readTurn wsX5_readTurn) := goodIn_app (goodIn_of _ (by decide +kernel)) ggX5_readText_X5_readTurn
theorem dX5_readText_0 : decode cX5_readText 0 = .ok (.aload_n 0, 1) := by decide +kernel
theorem dX5_readText_1 : decode cX5_readText 1 = .ok (.iconst 0, 1) := by decide +kernel
theorem dX5_readText_2 : decode cX5_readText 2 = .ok (.putfield 33, 3) := by decide +kernel
theorem dX5_readText_5 : decode cX5_readText 5 = .ok (.aload_n 0, 1) := by decide +kernel
theorem dX5_readText_6 : decode cX5_readText 6 = .ok (.iconst 0, 1) := by decide +kernel
theorem dX5_readText_7 : decode cX5_readText 7 = .ok (.putfield 36, 3) := by decide +kernel
theorem dX5_readText_10 : decode cX5_readText 10 = .ok (.aload_n 0, 1) := by decide +kernel
theorem dX5_readText_11 : decode cX5_readText 11 = .ok (.iconst 0, 1) := by decide +kernel
theorem dX5_readText_12 : decode cX5_readText 12 = .ok (.putfield 39, 3) := by decide +kernel
theorem dX5_readText_15 : decode cX5_readText 15 = .ok (.aload_n 0, 1) := by decide +kernel
theorem dX5_readText_16 : decode cX5_readText 16 = .ok (.iconst 0, 1) := by decide +kernel
theorem dX5_readText_17 : decode cX5_readText 17 = .ok (.putfield 42, 3) := by decide +kernel
theorem dX5_readText_20 : decode cX5_readText 20 = .ok (.aload_n 0, 1) := by decide +kernel
theorem dX5_readText_21 : decode cX5_readText 21 = .ok (.iconst 0, 1) := by decide +kernel
theorem dX5_readText_22 : decode cX5_readText 22 = .ok (.putfield 45, 3) := by decide +kernel
theorem dX5_readText_25 : decode cX5_readText 25 = .ok (.aload_n 0, 1) := by decide +kernel
theorem dX5_readText_26 : decode cX5_readText 26 = .ok (.invokevirtual 49, 3) := by decide +kernel
theorem dX5_readText_29 : decode cX5_readText 29 = .ok (.istore_n 1, 1) := by decide +kernel
theorem dX5_readText_30 : decode cX5_readText 30 = .ok (.iconst 0, 1) := by decide +kernel
theorem dX5_readText_31 : decode cX5_readText 31 = .ok (.istore_n 2, 1) := by decide +kernel
theorem dX5_readText_32 : decode cX5_readText 32 = .ok (.iload_n 2, 1) := by decide +kernel
theorem dX5_readText_33 : decode cX5_readText 33 = .ok (.aload_n 0, 1) := by decide +kernel
theorem dX5_readText_34 : decode cX5_readText 34 = .ok (.getfield 29, 3) := by decide +kernel
theorem dX5_readText_37 : decode cX5_readText 37 = .ok (.if_icmp .gt 127, 3) := by decide +kernel
theorem dX5_readText_40 : decode cX5_readText 40 = .ok (.iload_n 1, 1) := by decide +kernel
theorem dX5_readText_41 : decode cX5_readText 41 = .ok (.ifCond .eq 123, 3) := by decide +kernel
theorem dX5_readText_44 : decode cX5_readText 44 = .ok (.aload_n 0, 1) := by decide +kernel
theorem dX5_readText_45 : decode cX5_readText 45 = .ok (.invokevirtual 53, 3) := by decide +kernel
theorem dX5_readText_48 : decode cX5_readText 48 = .ok (.iconst (-1), 1) := by decide +kernel
theorem dX5_readText_49 : decode cX5_readText 49 = .ok (.if_icmp .eq 115, 3) := by decide +kernel
theorem dX5_readText_52 : decode cX5_readText 52 = .ok (.aload_n 0, 1) := by decide +kernel
theorem dX5_readText_53 : decode cX5_readText 53 = .ok (.invokevirtual 57, 3) := by decide +kernel
theorem dX5_readText_56 : decode cX5_readText 56 = .ok (.istore_n 1, 1) := by decide +kernel
theorem dX5_readText_57 : decode cX5_readText 57 = .ok (.iload_n 1, 1) := by decide +kernel
theorem dX5_readText_58 : decode cX5_readText 58 = .ok (.ifCond .eq 10, 3) := by decide +kernel
theorem dX5_readText_61 : decode cX5_readText 61 = .ok (.aload_n 0, 1) := by decide +kernel
theorem dX5_readText_62 : decode cX5_readText 62 = .ok (.invokevirtual 60, 3) := by decide +kernel
theorem dX5_readText_65 : decode cX5_readText 65 = .ok (.goto 4, 3) := by decide +kernel
theorem dX5_readText_68 : decode cX5_readText 68 = .ok (.iconst (-1), 1) := by decide +kernel
theorem dX5_readText_69 : decode cX5_readText 69 = .ok (.tableswitch 87 1 6 #[39, 47, 55, 63, 71, 79], 39) := by decide +kernel
theorem dX5_readText_108 : decode cX5_readText 108 = .ok (.aload_n 0, 1) := by decide +kernel
theorem dX5_readText_109 : decode cX5_readText 109 = .ok (.invokevirtual 63, 3) := by decide +kernel
theorem dX5_readText_112 : decode cX5_readText 112 = .ok (.istore_n 1, 1) := by decide +kernel
theorem dX5_readText_113 : decode cX5_readText 113 = .ok (.goto 45, 3) := by decide +kernel
theorem dX5_readText_116 : decode cX5_readText 116 = .ok (.aload_n 0, 1) := by decide +kernel
theorem dX5_readText_117 : decode cX5_readText 117 = .ok (.invokevirtual 66, 3) := by decide +kernel
theorem dX5_readText_120 : decode cX5_readText 120 = .ok (.istore_n 1, 1) := by decide +kernel
theorem dX5_readText_121 : decode cX5_readText 121 = .ok (.goto 37, 3) := by decide +kernel
theorem dX5_readText_124 : decode cX5_readText 124 = .ok (.aload_n 0, 1) := by decide +kernel
theorem dX5_readText_125 : decode cX5_readText 125 = .ok (.invokevirtual 69, 3) := by decide +kernel
theorem dX5_readText_128 : decode cX5_readText 128 = .ok (.istore_n 1, 1) := by decide +kernel
theorem dX5_readText_129 : decode cX5_readText 129 = .ok (.goto 29, 3) := by decide +kernel
theorem dX5_readText_132 : decode cX5_readText 132 = .ok (.aload_n 0, 1) := by decide +kernel
theorem dX5_readText_133 : decode cX5_readText 133 = .ok (.invokevirtual 72, 3) := by decide +kernel
theorem dX5_readText_136 : decode cX5_readText 136 = .ok (.istore_n 1, 1) := by decide +kernel
theorem dX5_readText_137 : decode cX5_readText 137 = .ok (.goto 21, 3) := by decide +kernel
theorem dX5_readText_140 : decode cX5_readText 140 = .ok (.aload_n 0, 1) := by decide +kernel
theorem dX5_readText_141 : decode cX5_readText 141 = .ok (.invokevirtual 75, 3) := by decide +kernel
theorem dX5_readText_144 : decode cX5_readText 144 = .ok (.istore_n 1, 1) := by decide +kernel
theorem dX5_readText_145 : decode cX5_readText 145 = .ok (.goto 13, 3) := by decide +kernel
theorem dX5_readText_148 : decode cX5_readText 148 = .ok (.aload_n 0, 1) := by decide +kernel
theorem dX5_readText_149 : decode cX5_readText 149 = .ok (.invokevirtual 78, 3) := by decide +kernel
theorem dX5_readText_152 : decode cX5_readText 152 = .ok (.istore_n 1, 1) := by decide +kernel
theorem dX5_readText_153 : decode cX5_readText 153 = .ok (.goto 5, 3) := by decide +kernel
theorem dX5_readText_156 : decode cX5_readText 156 = .ok (.iconst 0, 1) := by decide +kernel
theorem dX5_readText_157 : decode cX5_readText 157 = .ok (.istore_n 1, 1) := by decide +kernel
theorem dX5_readText_158 : decode cX5_readText 158 = .ok (.iinc 2 1, 3) := by decide +kernel
theorem dX5_readText_161 : decode cX5_readText 161 = .ok (.goto (-129), 3) := by decide +kernel
theorem dX5_readText_164 : decode cX5_readText 164 = .ok (.iload_n 1, 1) := by decide +kernel
theorem dX5_readText_165 : decode cX5_readText 165 = .ok (.ireturn, 1) := by decide +kernel
theorem dX5_fail_0 : decode cX5_fail 0 = .ok (.aload_n 0, 1) := by decide +kernel
theorem dX5_fail_1 : decode cX5_fail 1 = .ok (.iload_n 1, 1) := by decide +kernel
theorem dX5_fail_2 : decode cX5_fail 2 = .ok (.putfield 39, 3) := by decide +kernel
theorem dX5_fail_5 : decode cX5_fail 5 = .ok (.aload_n 0, 1) := by decide +kernel
theorem dX5_fail_6 : decode cX5_fail 6 = .ok (.iload_n 2, 1) := by decide +kernel
theorem dX5_fail_7 : decode cX5_fail 7 = .ok (.putfield 42, 3) := by decide +kernel
theorem dX5_fail_10 : decode cX5_fail 10 = .ok (.iconst 0, 1) := by decide +kernel
theorem dX5_fail_11 : decode cX5_fail 11 = .ok (.ireturn, 1) := by decide +kernel
theorem dX5_signAt_0 : decode cX5_signAt 0 = .ok (.iload_n 1, 1) := by decide +kernel
theorem dX5_signAt_1 : decode cX5_signAt 1 = .ok (.ifCond .lt 27, 3) := by decide +kernel
theorem dX5_signAt_4 : decode cX5_signAt 4 = .ok (.iload_n 1, 1) := by decide +kernel
theorem dX5_signAt_5 : decode cX5_signAt 5 = .ok (.aload_n 0, 1) := by decide +kernel
theorem dX5_signAt_6 : decode cX5_signAt 6 = .ok (.getfield 29, 3) := by decide +kernel
theorem dX5_signAt_9 : decode cX5_signAt 9 = .ok (.if_icmp .ge 19, 3) := by decide +kernel
theorem dX5_signAt_12 : decode cX5_signAt 12 = .ok (.iload_n 1, 1) := by decide +kernel
theorem dX5_signAt_13 : decode cX5_signAt 13 = .ok (.sipush 500, 3) := by decide +kernel
theorem dX5_signAt_16 : decode cX5_signAt 16 = .ok (.if_icmp .ge 12, 3) := by decide +kernel
theorem dX5_signAt_19 : decode cX5_signAt 19 = .ok (.aload_n 0, 1) := by decide +kernel
theorem dX5_signAt_20 : decode cX5_signAt 20 = .ok (.getfield 25, 3) := by decide +kernel
theorem dX5_signAt_23 : decode cX5_signAt 23 = .ok (.iload_n 1, 1) := by decide +kernel
theorem dX5_signAt_24 : decode cX5_signAt 24 = .ok (.iaload, 1) := by decide +kernel
theorem dX5_signAt_25 : decode cX5_signAt 25 = .ok (.goto 4, 3) := by decide +kernel
theorem dX5_signAt_28 : decode cX5_signAt 28 = .ok (.iconst (-1), 1) := by decide +kernel
theorem dX5_signAt_29 : decode cX5_signAt 29 = .ok (.ireturn, 1) := by decide +kernel
set_option maxRecDepth 20000 in
theorem ggX5_nextSign_X5_signAt : GoodIn wsX5_nextSign wsX5_signAt := goodIn_r _ [7, 1, 8, 9, 10, 11, 12, 13, 14, 15, 16, 17, 18, 19, 20, 21, 22] (by decide +kernel) (by decide +kernel)
set_option maxRecDepth 20000 in
theorem gX5_nextSign_X5_signAt : GoodIn wsX5_nextSign (wsV RX5 81 RX5 yX5_signAt wsX5_signAt) := goodIn_app (goodIn_of _ (by decide +kernel)) ggX5_nextSign_X5_signAt
theorem dX5_nextSign_0 : decode cX5_nextSign 0 = .ok (.iconst 0, 1) := by decide +kernel
theorem dX5_nextSign_1 : decode cX5_nextSign 1 = .ok (.istore_n 1, 1) := by decide +kernel
theorem dX5_nextSign_2 : decode cX5_nextSign 2 = .ok (.iload_n 1, 1) := by decide +kernel
theorem dX5_nextSign_3 : decode cX5_nextSign 3 = .ok (.aload_n 0, 1) := by decide +kernel
theorem dX5_nextSign_4 : decode cX5_nextSign 4 = .ok (.getfield 29, 3) := by decide +kernel
theorem dX5_nextSign_7 : decode cX5_nextSign 7 = .ok (.if_icmp .ge 32, 3) := by decide +kernel
theorem dX5_nextSign_10 : decode cX5_nextSign 10 = .ok (.aload_n 0, 1) := by decide +kernel
theorem dX5_nextSign_11 : decode cX5_nextSign 11 = .ok (.aload_n 0, 1) := by decide +kernel
theorem dX5_nextSign_12 : decode cX5_nextSign 12 = .ok (.getfield 33, 3) := by decide +kernel
theorem dX5_nextSign_15 : decode cX5_nextSign 15 = .ok (.invokevirtual 81, 3) := by decide +kernel
theorem dX5_nextSign_18 : decode cX5_nextSign 18 = .ok (.bipush 32, 2) := by decide +kernel
theorem dX5_nextSign_20 : decode cX5_nextSign 20 = .ok (.if_icmp .ne 19, 3) := by decide +kernel
theorem dX5_nextSign_23 : decode cX5_nextSign 23 = .ok (.aload_n 0, 1) := by decide +kernel
theorem dX5_nextSign_24 : decode cX5_nextSign 24 = .ok (.dup, 1) := by decide +kernel
theorem dX5_nextSign_25 : decode cX5_nextSign 25 = .ok (.getfield 33, 3) := by decide +kernel
theorem dX5_nextSign_28 : decode cX5_nextSign 28 = .ok (.iconst 1, 1) := by decide +kernel
theorem dX5_nextSign_29 : decode cX5_nextSign 29 = .ok (.iadd, 1) := by decide +kernel
theorem dX5_nextSign_30 : decode cX5_nextSign 30 = .ok (.putfield 33, 3) := by decide +kernel
theorem dX5_nextSign_33 : decode cX5_nextSign 33 = .ok (.iinc 1 1, 3) := by decide +kernel
theorem dX5_nextSign_36 : decode cX5_nextSign 36 = .ok (.goto (-34), 3) := by decide +kernel
theorem dX5_nextSign_39 : decode cX5_nextSign 39 = .ok (.aload_n 0, 1) := by decide +kernel
theorem dX5_nextSign_40 : decode cX5_nextSign 40 = .ok (.aload_n 0, 1) := by decide +kernel
theorem dX5_nextSign_41 : decode cX5_nextSign 41 = .ok (.getfield 33, 3) := by decide +kernel
theorem dX5_nextSign_44 : decode cX5_nextSign 44 = .ok (.invokevirtual 81, 3) := by decide +kernel
theorem dX5_nextSign_47 : decode cX5_nextSign 47 = .ok (.ireturn, 1) := by decide +kernel
theorem dX5_isLetter_0 : decode cX5_isLetter 0 = .ok (.iload_n 0, 1) := by decide +kernel
theorem dX5_isLetter_1 : decode cX5_isLetter 1 = .ok (.bipush 97, 2) := by decide +kernel
theorem dX5_isLetter_3 : decode cX5_isLetter 3 = .ok (.if_icmp .lt 13, 3) := by decide +kernel
theorem dX5_isLetter_6 : decode cX5_isLetter 6 = .ok (.iload_n 0, 1) := by decide +kernel
theorem dX5_isLetter_7 : decode cX5_isLetter 7 = .ok (.bipush 122, 2) := by decide +kernel
theorem dX5_isLetter_9 : decode cX5_isLetter 9 = .ok (.if_icmp .gt 7, 3) := by decide +kernel
theorem dX5_isLetter_12 : decode cX5_isLetter 12 = .ok (.iconst 1, 1) := by decide +kernel
theorem dX5_isLetter_13 : decode cX5_isLetter 13 = .ok (.goto 4, 3) := by decide +kernel
theorem dX5_isLetter_16 : decode cX5_isLetter 16 = .ok (.iconst 0, 1) := by decide +kernel
theorem dX5_isLetter_17 : decode cX5_isLetter 17 = .ok (.ireturn, 1) := by decide +kernel
theorem dX5_isDigit_0 : decode cX5_isDigit 0 = .ok (.iload_n 0, 1) := by decide +kernel
theorem dX5_isDigit_1 : decode cX5_isDigit 1 = .ok (.bipush 48, 2) := by decide +kernel
theorem dX5_isDigit_3 : decode cX5_isDigit 3 = .ok (.if_icmp .lt 13, 3) := by decide +kernel
theorem dX5_isDigit_6 : decode cX5_isDigit 6 = .ok (.iload_n 0, 1) := by decide +kernel
theorem dX5_isDigit_7 : decode cX5_isDigit 7 = .ok (.bipush 57, 2) := by decide +kernel
theorem dX5_isDigit_9 : decode cX5_isDigit 9 = .ok (.if_icmp .gt 7, 3) := by decide +kernel
theorem dX5_isDigit_12 : decode cX5_isDigit 12 = .ok (.iconst 1, 1) := by decide +kernel
theorem dX5_isDigit_13 : decode cX5_isDigit 13 = .ok (.goto 4, 3) := by decide +kernel
theorem dX5_isDigit_16 : decode cX5_isDigit 16 = .ok (.iconst 0, 1) := by decide +kernel
theorem dX5_isDigit_17 : decode cX5_isDigit 17 = .ok (.ireturn, 1) := by decide +kernel
set_option maxRecDepth 20000 in
theorem ggX5_takeWord_X5_nextSign : GoodIn wsX5_takeWord wsX5_nextSign := goodIn_r _ [9, 3, 1, 10, 11, 12, 8, 13, 14, 24, 25, 26, 27, 28, 29, 30, 31, 32, 33, 34, 35, 36, 37] (by decide +kernel) (by decide +kernel)
set_option maxRecDepth 20000 in
theorem gX5_takeWord_X5_nextSign : GoodIn wsX5_takeWord (wsV RX5 53 RX5 yX5_nextSign wsX5_nextSign) := goodIn_app (goodIn_of _ (by decide +kernel)) ggX5_takeWord_X5_nextSign
set_option maxRecDepth 20000 in
theorem ggX5_takeWord_X5_signAt : GoodIn wsX5_takeWord wsX5_signAt := goodIn_r _ [13, 3, 14, 24, 25, 26, 27, 28, 29, 30, 31, 32, 33, 34, 35, 36, 37] (by decide +kernel) (by decide +kernel)
set_option maxRecDepth 20000 in
theorem gX5_takeWord_X5_signAt : GoodIn wsX5_takeWord (wsV RX5 81 RX5 yX5_signAt wsX5_signAt) := goodIn_app (goodIn_of _ (by decide +kernel)) ggX5_takeWord_X5_signAt
set_option maxRecDepth 20000 in
theorem ggX5_takeWord_X5_isLetter : GoodIn wsX5_takeWord wsX5_isLetter := goodIn_r _ [17] (by decide +kernel) (by decide +kernel)
set_option maxRecDepth 20000 in
theorem gX5_takeWord_X5_isLetter : GoodIn wsX5_takeWord (va_wsS RX5 88 yX5_isLetter wsX5_isLetter) := goodIn_app (goodIn_of _ (by decide +kernel)) ggX5_takeWord_X5_isLetter
set_option maxRecDepth 20000 in
theorem ggX5_takeWord_X5_fail : GoodIn wsX5_takeWord wsX5_fail := goodIn_r _ [21, 22, 23, 24, 25, 26, 27, 28, 29, 30, 31, 32, 33, 34, 35, 36, 37] (by decide +kernel) (by decide +kernel)
set_option maxRecDepth 20000 in
theorem gX5_takeWord_X5_fail : GoodIn wsX5_takeWord (wsV RX5 95 RX5 yX5_fail wsX5_fail) := goodIn_app (goodIn_of _ (by decide +kernel)) ggX5_takeWord_X5_fail
theorem dX5_takeWord_0 : decode cX5_takeWord 0 = .ok (.aload_n 0, 1) := by decide +kernel
theorem dX5_takeWord_1 : decode cX5_takeWord 1 = .ok (.invokevirtual 53, 3) := by decide +kernel
theorem dX5_takeWord_4 : decode cX5_takeWord 4 = .ok (.pop, 1) := by decide +kernel
theorem dX5_takeWord_5 : decode cX5_takeWord 5 = .ok (.aload_n 0, 1) := by decide +kernel
theorem dX5_takeWord_6 : decode cX5_takeWord 6 = .ok (.aload_n 0, 1) := by decide +kernel
theorem dX5_takeWord_7 : decode cX5_takeWord 7 = .ok (.getfield 33, 3) := by decide +kernel
theorem dX5_takeWord_10 : decode cX5_takeWord 10 = .ok (.putfield 85, 3) := by decide +kernel
theorem dX5_takeWord_13 : decode cX5_takeWord 13 = .ok (.iconst 0, 1) := by decide +kernel
theorem dX5_takeWord_14 : decode cX5_takeWord 14 = .ok (.istore_n 1, 1) := by decide +kernel
theorem dX5_takeWord_15 : decode cX5_takeWord 15 = .ok (.iload_n 1, 1) := by decide +kernel
theorem dX5_takeWord_16 : decode cX5_takeWord 16 = .ok (.aload_n 0, 1) := by decide +kernel
theorem dX5_takeWord_17 : decode cX5_takeWord 17 = .ok (.getfield 29, 3) := by decide +kernel
theorem dX5_takeWord_20 : decode cX5_takeWord 20 = .ok (.if_icmp .ge 33, 3) := by decide +kernel
theorem dX5_takeWord_23 : decode cX5_takeWord 23 = .ok (.aload_n 0, 1) := by decide +kernel
theorem dX5_takeWord_24 : decode cX5_takeWord 24 = .ok (.aload_n 0, 1) := by decide +kernel
theorem dX5_takeWord_25 : decode cX5_takeWord 25 = .ok (.getfield 33, 3) := by decide +kernel
theorem dX5_takeWord_28 : decode cX5_takeWord 28 = .ok (.invokevirtual 81, 3) := by decide +kernel
theorem dX5_takeWord_31 : decode cX5_takeWord 31 = .ok (.invokestatic 88, 3) := by decide +kernel
theorem dX5_takeWord_34 : decode cX5_takeWord 34 = .ok (.ifCond .eq 19, 3) := by decide +kernel
theorem dX5_takeWord_37 : decode cX5_takeWord 37 = .ok (.aload_n 0, 1) := by decide +kernel
theorem dX5_takeWord_38 : decode cX5_takeWord 38 = .ok (.dup, 1) := by decide +kernel
theorem dX5_takeWord_39 : decode cX5_takeWord 39 = .ok (.getfield 33, 3) := by decide +kernel
theorem dX5_takeWord_42 : decode cX5_takeWord 42 = .ok (.iconst 1, 1) := by decide +kernel
theorem dX5_takeWord_43 : decode cX5_takeWord 43 = .ok (.iadd, 1) := by decide +kernel
theorem dX5_takeWord_44 : decode cX5_takeWord 44 = .ok (.putfield 33, 3) := by decide +kernel
theorem dX5_takeWord_47 : decode cX5_takeWord 47 = .ok (.iinc 1 1, 3) := by decide +kernel
theorem dX5_takeWord_50 : decode cX5_takeWord 50 = .ok (.goto (-35), 3) := by decide +kernel
theorem dX5_takeWord_53 : decode cX5_takeWord 53 = .ok (.aload_n 0, 1) := by decide +kernel
theorem dX5_takeWord_54 : decode cX5_takeWord 54 = .ok (.aload_n 0, 1) := by decide +kernel
theorem dX5_takeWord_55 : decode cX5_takeWord 55 = .ok (.getfield 33, 3) := by decide +kernel
theorem dX5_takeWord_58 : decode cX5_takeWord 58 = .ok (.aload_n 0, 1) := by decide +kernel
theorem dX5_takeWord_59 : decode cX5_takeWord 59 = .ok (.getfield 85, 3) := by decide +kernel
theorem dX5_takeWord_62 : decode cX5_takeWord 62 = .ok (.isub, 1) := by decide +kernel
theorem dX5_takeWord_63 : decode cX5_takeWord 63 = .ok (.putfield 92, 3) := by decide +kernel
theorem dX5_takeWord_66 : decode cX5_takeWord 66 = .ok (.aload_n 0, 1) := by decide +kernel
theorem dX5_takeWord_67 : decode cX5_takeWord 67 = .ok (.getfield 92, 3) := by decide +kernel
theorem dX5_takeWord_70 : decode cX5_takeWord 70 = .ok (.ifCond .gt 15, 3) := by decide +kernel
theorem dX5_takeWord_73 : decode cX5_takeWord 73 = .ok (.aload_n 0, 1) := by decide +kernel
theorem dX5_takeWord_74 : decode cX5_takeWord 74 = .ok (.iconst 1, 1) := by decide +kernel
theorem dX5_takeWord_75 : decode cX5_takeWord 75 = .ok (.aload_n 0, 1) := by decide +kernel
theorem dX5_takeWord_76 : decode cX5_takeWord 76 = .ok (.getfield 85, 3) := by decide +kernel
theorem dX5_takeWord_79 : decode cX5_takeWord 79 = .ok (.invokevirtual 95, 3) := by decide +kernel
theorem dX5_takeWord_82 : decode cX5_takeWord 82 = .ok (.ifCond .eq 7, 3) := by decide +kernel
theorem dX5_takeWord_85 : decode cX5_takeWord 85 = .ok (.iconst 1, 1) := by decide +kernel
theorem dX5_takeWord_86 : decode cX5_takeWord 86 = .ok (.goto 4, 3) := by decide +kernel
theorem dX5_takeWord_89 : decode cX5_takeWord 89 = .ok (.iconst 0, 1) := by decide +kernel
theorem dX5_takeWord_90 : decode cX5_takeWord 90 = .ok (.ireturn, 1) := by decide +kernel
set_option maxRecDepth 20000 in
theorem ggX5_wordIs_J0_length_8abf5 : GoodIn wsX5_wordIs wsJ0_length_8abf5 := goodIn_r _ [7, 8, 9, 10, 11, 6, 12, 13, 14] (by decide +kernel) (by decide +kernel)
set_option maxRecDepth 20000 in
theorem gX5_wordIs_J0_length_8abf5 : GoodIn wsX5_wordIs (wsV RX5 99 RJ0 yJ0_length_8abf5 wsJ0_length_8abf5) := goodIn_app (goodIn_of _ (by decide +kernel)) ggX5_wordIs_J0_length_8abf5
set_option maxRecDepth 20000 in
theorem ggX5_wordIs_X5_signAt : GoodIn wsX5_wordIs wsX5_signAt := goodIn_r _ [19, 20, 21, 59, 60, 61, 62, 63, 64, 65, 66, 67, 68, 69, 70, 71, 72] (by decide +kernel) (by decide +kernel)
set_option maxRecDepth 20000 in
theorem gX5_wordIs_X5_signAt : GoodIn wsX5_wordIs (wsV RX5 81 RX5 yX5_signAt wsX5_signAt) := goodIn_app (goodIn_of _ (by decide +kernel)) ggX5_wordIs_X5_signAt
set_option maxRecDepth 20000 in
theorem ggX5_wordIs_J0_charAt_5068e : GoodIn wsX5_wordIs wsJ0_charAt_5068e := goodIn_r _ [25, 8, 26, 27, 28, 6, 29, 13, 14, 30, 31, 32, 33, 34, 35, 36, 37, 38, 39, 40, 41, 42, 43, 44, 45, 46, 47, 48, 49, 50, 51, 52, 53, 54, 55, 56, 57, 58] (by decide +kernel) (by decide +kernel)
set_option maxRecDepth 20000 in
theorem gX5_wordIs_J0_charAt_5068e : GoodIn wsX5_wordIs (wsV RX5 103 RJ0 yJ0_charAt_5068e wsJ0_charAt_5068e) := goodIn_app (goodIn_of _ (by decide +kernel)) ggX5_wordIs_J0_charAt_5068e
theorem dX5_wordIs_0 : decode cX5_wordIs 0 = .ok (.aload_n 0, 1) := by decide +kernel
theorem dX5_wordIs_1 : decode cX5_wordIs 1 = .ok (.getfield 92, 3) := by decide +kernel
theorem dX5_wordIs_4 : decode cX5_wordIs 4 = .ok (.aload_n 1, 1) := by decide +kernel
theorem dX5_wordIs_5 : decode cX5_wordIs 5 = .ok (.invokevirtual 99, 3) := by decide +kernel
theorem dX5_wordIs_8 : decode cX5_wordIs 8 = .ok (.if_icmp .eq 5, 3) := by decide +kernel
theorem dX5_wordIs_11 : decode cX5_wordIs 11 = .ok (.iconst 0, 1) := by decide +kernel
theorem dX5_wordIs_12 : decode cX5_wordIs 12 = .ok (.ireturn, 1) := by decide +kernel
theorem dX5_wordIs_13 : decode cX5_wordIs 13 = .ok (.iconst 0, 1) := by decide +kernel
theorem dX5_wordIs_14 : decode cX5_wordIs 14 = .ok (.istore_n 2, 1) := by decide +kernel
theorem dX5_wordIs_15 : decode cX5_wordIs 15 = .ok (.iload_n 2, 1) := by decide +kernel
theorem dX5_wordIs_16 : decode cX5_wordIs 16 = .ok (.aload_n 1, 1) := by decide +kernel
theorem dX5_wordIs_17 : decode cX5_wordIs 17 = .ok (.invokevirtual 99, 3) := by decide +kernel
theorem dX5_wordIs_20 : decode cX5_wordIs 20 = .ok (.if_icmp .ge 29, 3) := by decide +kernel
theorem dX5_wordIs_23 : decode cX5_wordIs 23 = .ok (.aload_n 0, 1) := by decide +kernel
theorem dX5_wordIs_24 : decode cX5_wordIs 24 = .ok (.aload_n 0, 1) := by decide +kernel
theorem dX5_wordIs_25 : decode cX5_wordIs 25 = .ok (.getfield 85, 3) := by decide +kernel
theorem dX5_wordIs_28 : decode cX5_wordIs 28 = .ok (.iload_n 2, 1) := by decide +kernel
theorem dX5_wordIs_29 : decode cX5_wordIs 29 = .ok (.iadd, 1) := by decide +kernel
theorem dX5_wordIs_30 : decode cX5_wordIs 30 = .ok (.invokevirtual 81, 3) := by decide +kernel
theorem dX5_wordIs_33 : decode cX5_wordIs 33 = .ok (.aload_n 1, 1) := by decide +kernel
theorem dX5_wordIs_34 : decode cX5_wordIs 34 = .ok (.iload_n 2, 1) := by decide +kernel
theorem dX5_wordIs_35 : decode cX5_wordIs 35 = .ok (.invokevirtual 103, 3) := by decide +kernel
theorem dX5_wordIs_38 : decode cX5_wordIs 38 = .ok (.if_icmp .eq 5, 3) := by decide +kernel
theorem dX5_wordIs_41 : decode cX5_wordIs 41 = .ok (.iconst 0, 1) := by decide +kernel
theorem dX5_wordIs_42 : decode cX5_wordIs 42 = .ok (.ireturn, 1) := by decide +kernel
theorem dX5_wordIs_43 : decode cX5_wordIs 43 = .ok (.iinc 2 1, 3) := by decide +kernel
theorem dX5_wordIs_46 : decode cX5_wordIs 46 = .ok (.goto (-31), 3) := by decide +kernel
theorem dX5_wordIs_49 : decode cX5_wordIs 49 = .ok (.iconst 1, 1) := by decide +kernel
theorem dX5_wordIs_50 : decode cX5_wordIs 50 = .ok (.ireturn, 1) := by decide +kernel
set_option maxRecDepth 20000 in
theorem ggX5_takeNumber_X5_nextSign : GoodIn wsX5_takeNumber wsX5_nextSign := goodIn_r _ [13, 4, 1, 14, 15, 16, 12, 17, 18, 28, 29, 30, 31, 32, 33, 34, 35, 36, 37, 38, 39, 40, 41] (by decide +kernel) (by decide +kernel)
set_option maxRecDepth 20000 in
theorem gX5_takeNumber_X5_nextSign : GoodIn wsX5_takeNumber (wsV RX5 53 RX5 yX5_nextSign wsX5_nextSign) := goodIn_app (goodIn_of _ (by decide +kernel)) ggX5_takeNumber_X5_nextSign
set_option maxRecDepth 20000 in
theorem ggX5_takeNumber_X5_signAt : GoodIn wsX5_takeNumber wsX5_signAt := goodIn_r _ [17, 4, 18, 28, 29, 30, 31, 32, 33, 34, 35, 36, 37, 38, 39, 40, 41] (by decide +kernel) (by decide +kernel)
set_option maxRecDepth 20000 in
theorem gX5_takeNumber_X5_signAt : GoodIn wsX5_takeNumber (wsV RX5 81 RX5 yX5_signAt wsX5_signAt) := goodIn_app (goodIn_of _ (by decide +kernel)) ggX5_takeNumber_X5_signAt
set_option maxRecDepth 20000 in
theorem ggX5_takeNumber_X5_isDigit : GoodIn wsX5_takeNumber wsX5_isDigit := goodIn_r _ [21] (by decide +kernel) (by decide +kernel)
set_option maxRecDepth 20000 in
theorem gX5_takeNumber_X5_isDigit : GoodIn wsX5_takeNumber (va_wsS RX5 113 yX5_isDigit wsX5_isDigit) := goodIn_app (goodIn_of _ (by decide +kernel)) ggX5_takeNumber_X5_isDigit
set_option maxRecDepth 20000 in
theorem ggX5_takeNumber_X5_fail : GoodIn wsX5_takeNumber wsX5_fail := goodIn_r _ [25, 26, 27, 28, 29, 30, 31, 32, 33, 34, 35, 36, 37, 38, 39, 40, 41] (by decide +kernel) (by decide +kernel)
set_option maxRecDepth 20000 in
theorem gX5_takeNumber_X5_fail : GoodIn wsX5_takeNumber (wsV RX5 95 RX5 yX5_fail wsX5_fail) := goodIn_app (goodIn_of _ (by decide +kernel)) ggX5_takeNumber_X5_fail
theorem dX5_takeNumber_0 : decode cX5_takeNumber 0 = .ok (.aload_n 0, 1) := by decide +kernel
theorem dX5_takeNumber_1 : decode cX5_takeNumber 1 = .ok (.invokevirtual 53, 3) := by decide +kernel
theorem dX5_takeNumber_4 : decode cX5_takeNumber 4 = .ok (.pop, 1) := by decide +kernel
theorem dX5_takeNumber_5 : decode cX5_takeNumber 5 = .ok (.aload_n 0, 1) := by decide +kernel
theorem dX5_takeNumber_6 : decode cX5_takeNumber 6 = .ok (.aload_n 0, 1) := by decide +kernel
theorem dX5_takeNumber_7 : decode cX5_takeNumber 7 = .ok (.getfield 33, 3) := by decide +kernel
theorem dX5_takeNumber_10 : decode cX5_takeNumber 10 = .ok (.putfield 107, 3) := by decide +kernel
theorem dX5_takeNumber_13 : decode cX5_takeNumber 13 = .ok (.aload_n 0, 1) := by decide +kernel
theorem dX5_takeNumber_14 : decode cX5_takeNumber 14 = .ok (.iconst 0, 1) := by decide +kernel
theorem dX5_takeNumber_15 : decode cX5_takeNumber 15 = .ok (.putfield 110, 3) := by decide +kernel
theorem dX5_takeNumber_18 : decode cX5_takeNumber 18 = .ok (.iconst 0, 1) := by decide +kernel
theorem dX5_takeNumber_19 : decode cX5_takeNumber 19 = .ok (.istore_n 3, 1) := by decide +kernel
theorem dX5_takeNumber_20 : decode cX5_takeNumber 20 = .ok (.iload_n 3, 1) := by decide +kernel
theorem dX5_takeNumber_21 : decode cX5_takeNumber 21 = .ok (.aload_n 0, 1) := by decide +kernel
theorem dX5_takeNumber_22 : decode cX5_takeNumber 22 = .ok (.getfield 29, 3) := by decide +kernel
theorem dX5_takeNumber_25 : decode cX5_takeNumber 25 = .ok (.if_icmp .ge 62, 3) := by decide +kernel
theorem dX5_takeNumber_28 : decode cX5_takeNumber 28 = .ok (.aload_n 0, 1) := by decide +kernel
theorem dX5_takeNumber_29 : decode cX5_takeNumber 29 = .ok (.aload_n 0, 1) := by decide +kernel
theorem dX5_takeNumber_30 : decode cX5_takeNumber 30 = .ok (.getfield 33, 3) := by decide +kernel
theorem dX5_takeNumber_33 : decode cX5_takeNumber 33 = .ok (.invokevirtual 81, 3) := by decide +kernel
theorem dX5_takeNumber_36 : decode cX5_takeNumber 36 = .ok (.invokestatic 113, 3) := by decide +kernel
theorem dX5_takeNumber_39 : decode cX5_takeNumber 39 = .ok (.ifCond .eq 48, 3) := by decide +kernel
theorem dX5_takeNumber_42 : decode cX5_takeNumber 42 = .ok (.aload_n 0, 1) := by decide +kernel
theorem dX5_takeNumber_43 : decode cX5_takeNumber 43 = .ok (.aload_n 0, 1) := by decide +kernel
theorem dX5_takeNumber_44 : decode cX5_takeNumber 44 = .ok (.getfield 110, 3) := by decide +kernel
theorem dX5_takeNumber_47 : decode cX5_takeNumber 47 = .ok (.bipush 10, 2) := by decide +kernel
theorem dX5_takeNumber_49 : decode cX5_takeNumber 49 = .ok (.imul, 1) := by decide +kernel
theorem dX5_takeNumber_50 : decode cX5_takeNumber 50 = .ok (.aload_n 0, 1) := by decide +kernel
theorem dX5_takeNumber_51 : decode cX5_takeNumber 51 = .ok (.aload_n 0, 1) := by decide +kernel
theorem dX5_takeNumber_52 : decode cX5_takeNumber 52 = .ok (.getfield 33, 3) := by decide +kernel
theorem dX5_takeNumber_55 : decode cX5_takeNumber 55 = .ok (.invokevirtual 81, 3) := by decide +kernel
theorem dX5_takeNumber_58 : decode cX5_takeNumber 58 = .ok (.iadd, 1) := by decide +kernel
theorem dX5_takeNumber_59 : decode cX5_takeNumber 59 = .ok (.bipush 48, 2) := by decide +kernel
theorem dX5_takeNumber_61 : decode cX5_takeNumber 61 = .ok (.isub, 1) := by decide +kernel
theorem dX5_takeNumber_62 : decode cX5_takeNumber 62 = .ok (.sipush 1000, 3) := by decide +kernel
theorem dX5_takeNumber_65 : decode cX5_takeNumber 65 = .ok (.invokestatic 116, 3) := by decide +kernel
theorem dX5_takeNumber_68 : decode cX5_takeNumber 68 = .ok (.putfield 110, 3) := by decide +kernel
theorem dX5_takeNumber_71 : decode cX5_takeNumber 71 = .ok (.aload_n 0, 1) := by decide +kernel
theorem dX5_takeNumber_72 : decode cX5_takeNumber 72 = .ok (.dup, 1) := by decide +kernel
theorem dX5_takeNumber_73 : decode cX5_takeNumber 73 = .ok (.getfield 33, 3) := by decide +kernel
theorem dX5_takeNumber_76 : decode cX5_takeNumber 76 = .ok (.iconst 1, 1) := by decide +kernel
theorem dX5_takeNumber_77 : decode cX5_takeNumber 77 = .ok (.iadd, 1) := by decide +kernel
theorem dX5_takeNumber_78 : decode cX5_takeNumber 78 = .ok (.putfield 33, 3) := by decide +kernel
theorem dX5_takeNumber_81 : decode cX5_takeNumber 81 = .ok (.iinc 3 1, 3) := by decide +kernel
theorem dX5_takeNumber_84 : decode cX5_takeNumber 84 = .ok (.goto (-64), 3) := by decide +kernel
theorem dX5_takeNumber_87 : decode cX5_takeNumber 87 = .ok (.aload_n 0, 1) := by decide +kernel
theorem dX5_takeNumber_88 : decode cX5_takeNumber 88 = .ok (.getfield 33, 3) := by decide +kernel
theorem dX5_takeNumber_91 : decode cX5_takeNumber 91 = .ok (.aload_n 0, 1) := by decide +kernel
theorem dX5_takeNumber_92 : decode cX5_takeNumber 92 = .ok (.getfield 107, 3) := by decide +kernel
theorem dX5_takeNumber_95 : decode cX5_takeNumber 95 = .ok (.if_icmp .ne 13, 3) := by decide +kernel
theorem dX5_takeNumber_98 : decode cX5_takeNumber 98 = .ok (.aload_n 0, 1) := by decide +kernel
theorem dX5_takeNumber_99 : decode cX5_takeNumber 99 = .ok (.iconst 1, 1) := by decide +kernel
theorem dX5_takeNumber_100 : decode cX5_takeNumber 100 = .ok (.aload_n 0, 1) := by decide +kernel
theorem dX5_takeNumber_101 : decode cX5_takeNumber 101 = .ok (.getfield 33, 3) := by decide +kernel
theorem dX5_takeNumber_104 : decode cX5_takeNumber 104 = .ok (.invokevirtual 95, 3) := by decide +kernel
theorem dX5_takeNumber_107 : decode cX5_takeNumber 107 = .ok (.ireturn, 1) := by decide +kernel
theorem dX5_takeNumber_108 : decode cX5_takeNumber 108 = .ok (.aload_n 0, 1) := by decide +kernel
theorem dX5_takeNumber_109 : decode cX5_takeNumber 109 = .ok (.getfield 110, 3) := by decide +kernel
theorem dX5_takeNumber_112 : decode cX5_takeNumber 112 = .ok (.iload_n 1, 1) := by decide +kernel
theorem dX5_takeNumber_113 : decode cX5_takeNumber 113 = .ok (.if_icmp .lt 11, 3) := by decide +kernel
theorem dX5_takeNumber_116 : decode cX5_takeNumber 116 = .ok (.aload_n 0, 1) := by decide +kernel
theorem dX5_takeNumber_117 : decode cX5_takeNumber 117 = .ok (.getfield 110, 3) := by decide +kernel
theorem dX5_takeNumber_120 : decode cX5_takeNumber 120 = .ok (.iload_n 2, 1) := by decide +kernel
theorem dX5_takeNumber_121 : decode cX5_takeNumber 121 = .ok (.if_icmp .le 15, 3) := by decide +kernel
theorem dX5_takeNumber_124 : decode cX5_takeNumber 124 = .ok (.aload_n 0, 1) := by decide +kernel
theorem dX5_takeNumber_125 : decode cX5_takeNumber 125 = .ok (.iconst 2, 1) := by decide +kernel
theorem dX5_takeNumber_126 : decode cX5_takeNumber 126 = .ok (.aload_n 0, 1) := by decide +kernel
theorem dX5_takeNumber_127 : decode cX5_takeNumber 127 = .ok (.getfield 107, 3) := by decide +kernel
theorem dX5_takeNumber_130 : decode cX5_takeNumber 130 = .ok (.invokevirtual 95, 3) := by decide +kernel
theorem dX5_takeNumber_133 : decode cX5_takeNumber 133 = .ok (.ifCond .eq 7, 3) := by decide +kernel
theorem dX5_takeNumber_136 : decode cX5_takeNumber 136 = .ok (.iconst 1, 1) := by decide +kernel
theorem dX5_takeNumber_137 : decode cX5_takeNumber 137 = .ok (.goto 4, 3) := by decide +kernel
theorem dX5_takeNumber_140 : decode cX5_takeNumber 140 = .ok (.iconst 0, 1) := by decide +kernel
theorem dX5_takeNumber_141 : decode cX5_takeNumber 141 = .ok (.ireturn, 1) := by decide +kernel
set_option maxRecDepth 20000 in
theorem ggX5_takeName_X5_takeWord : GoodIn wsX5_takeName wsX5_takeWord := goodIn_r _ [7, 8, 2, 9, 1, 10, 11, 12, 6, 13, 14, 15, 16, 17, 18, 19, 20, 21, 22, 23, 24, 25, 26, 27, 28, 29, 30, 31, 32, 33, 34, 35, 36, 37, 38, 39, 40, 41] (by decide +kernel) (by decide +kernel)
set_option maxRecDepth 20000 in
theorem gX5_takeName_X5_takeWord : GoodIn wsX5_takeName (wsV RX5 122 RX5 yX5_takeWord wsX5_takeWord) := goodIn_app (goodIn_of _ (by decide +kernel)) ggX5_takeName_X5_takeWord
set_option maxRecDepth 20000 in
theorem ggX5_takeName_X5_fail : GoodIn wsX5_takeName wsX5_fail := goodIn_r _ [25, 26, 27, 28, 29, 30, 31, 32, 33, 34, 35, 36, 37, 38, 39, 40, 41] (by decide +kernel) (by decide +kernel)
set_option maxRecDepth 20000 in
theorem gX5_takeName_X5_fail : GoodIn wsX5_takeName (wsV RX5 95 RX5 yX5_fail wsX5_fail) := goodIn_app (goodIn_of _ (by decide +kernel)) ggX5_takeName_X5_fail
theorem dX5_takeName_0 : decode cX5_takeName 0 = .ok (.aload_n 0, 1) := by decide +kernel
theorem dX5_takeName_1 : decode cX5_takeName 1 = .ok (.invokevirtual 122, 3) := by decide +kernel
theorem dX5_takeName_4 : decode cX5_takeName 4 = .ok (.ifCond .eq 28, 3) := by decide +kernel
theorem dX5_takeName_7 : decode cX5_takeName 7 = .ok (.aload_n 0, 1) := by decide +kernel
theorem dX5_takeName_8 : decode cX5_takeName 8 = .ok (.getfield 92, 3) := by decide +kernel
theorem dX5_takeName_11 : decode cX5_takeName 11 = .ok (.bipush 8, 2) := by decide +kernel
theorem dX5_takeName_13 : decode cX5_takeName 13 = .ok (.if_icmp .le 15, 3) := by decide +kernel
theorem dX5_takeName_16 : decode cX5_takeName 16 = .ok (.aload_n 0, 1) := by decide +kernel
theorem dX5_takeName_17 : decode cX5_takeName 17 = .ok (.iconst 1, 1) := by decide +kernel
theorem dX5_takeName_18 : decode cX5_takeName 18 = .ok (.aload_n 0, 1) := by decide +kernel
theorem dX5_takeName_19 : decode cX5_takeName 19 = .ok (.getfield 85, 3) := by decide +kernel
theorem dX5_takeName_22 : decode cX5_takeName 22 = .ok (.invokevirtual 95, 3) := by decide +kernel
theorem dX5_takeName_25 : decode cX5_takeName 25 = .ok (.ifCond .eq 7, 3) := by decide +kernel
theorem dX5_takeName_28 : decode cX5_takeName 28 = .ok (.iconst 1, 1) := by decide +kernel
theorem dX5_takeName_29 : decode cX5_takeName 29 = .ok (.goto 4, 3) := by decide +kernel
theorem dX5_takeName_32 : decode cX5_takeName 32 = .ok (.iconst 0, 1) := by decide +kernel
theorem dX5_takeName_33 : decode cX5_takeName 33 = .ok (.ireturn, 1) := by decide +kernel
set_option maxRecDepth 20000 in
theorem ggX5_namedHarbour_X2_lengthOf : GoodIn wsX5_namedHarbour wsX2_lengthOf := goodIn_r _ [8, 9, 10, 43, 44, 45, 46, 47, 48] (by decide +kernel) (by decide +kernel)
set_option maxRecDepth 20000 in
theorem gX5_namedHarbour_X2_lengthOf : GoodIn wsX5_namedHarbour (wsV RX5 134 RX2 yX2_lengthOf wsX2_lengthOf) := goodIn_app (goodIn_of _ (by decide +kernel)) ggX5_namedHarbour_X2_lengthOf
set_option maxRecDepth 20000 in
theorem ggX5_namedHarbour_X2_letterOf : GoodIn wsX5_namedHarbour wsX2_letterOf := goodIn_r _ [14, 15, 16, 5, 6, 7, 8, 9, 10, 43, 44, 45, 46, 47, 48] (by decide +kernel) (by decide +kernel)
set_option maxRecDepth 20000 in
theorem gX5_namedHarbour_X2_letterOf : GoodIn wsX5_namedHarbour (wsV RX5 137 RX2 yX2_letterOf wsX2_letterOf) := goodIn_app (goodIn_of _ (by decide +kernel)) ggX5_namedHarbour_X2_letterOf
set_option maxRecDepth 20000 in
theorem ggX5_namedHarbour_X5_signAt : GoodIn wsX5_namedHarbour wsX5_signAt := goodIn_r _ [21, 22, 23, 24, 25, 26, 27, 28, 29, 30, 31, 32, 33, 34, 35, 36, 37] (by decide +kernel) (by decide +kernel)
set_option maxRecDepth 20000 in
theorem gX5_namedHarbour_X5_signAt : GoodIn wsX5_namedHarbour (wsV RX5 81 RX5 yX5_signAt wsX5_signAt) := goodIn_app (goodIn_of _ (by decide +kernel)) ggX5_namedHarbour_X5_signAt
theorem dX5_namedHarbour_0 : decode cX5_namedHarbour 0 = .ok (.iconst 0, 1) := by decide +kernel
theorem dX5_namedHarbour_1 : decode cX5_namedHarbour 1 = .ok (.istore_n 1, 1) := by decide +kernel
theorem dX5_namedHarbour_2 : decode cX5_namedHarbour 2 = .ok (.iload_n 1, 1) := by decide +kernel
theorem dX5_namedHarbour_3 : decode cX5_namedHarbour 3 = .ok (.aload_n 0, 1) := by decide +kernel
theorem dX5_namedHarbour_4 : decode cX5_namedHarbour 4 = .ok (.getfield 12, 3) := by decide +kernel
theorem dX5_namedHarbour_7 : decode cX5_namedHarbour 7 = .ok (.getfield 125, 3) := by decide +kernel
theorem dX5_namedHarbour_10 : decode cX5_namedHarbour 10 = .ok (.getfield 129, 3) := by decide +kernel
theorem dX5_namedHarbour_13 : decode cX5_namedHarbour 13 = .ok (.if_icmp .ge 90, 3) := by decide +kernel
theorem dX5_namedHarbour_16 : decode cX5_namedHarbour 16 = .ok (.aload_n 0, 1) := by decide +kernel
theorem dX5_namedHarbour_17 : decode cX5_namedHarbour 17 = .ok (.getfield 12, 3) := by decide +kernel
theorem dX5_namedHarbour_20 : decode cX5_namedHarbour 20 = .ok (.getfield 125, 3) := by decide +kernel
theorem dX5_namedHarbour_23 : decode cX5_namedHarbour 23 = .ok (.iload_n 1, 1) := by decide +kernel
theorem dX5_namedHarbour_24 : decode cX5_namedHarbour 24 = .ok (.invokevirtual 134, 3) := by decide +kernel
theorem dX5_namedHarbour_27 : decode cX5_namedHarbour 27 = .ok (.aload_n 0, 1) := by decide +kernel
theorem dX5_namedHarbour_28 : decode cX5_namedHarbour 28 = .ok (.getfield 92, 3) := by decide +kernel
theorem dX5_namedHarbour_31 : decode cX5_namedHarbour 31 = .ok (.if_icmp .ne 7, 3) := by decide +kernel
theorem dX5_namedHarbour_34 : decode cX5_namedHarbour 34 = .ok (.iconst 1, 1) := by decide +kernel
theorem dX5_namedHarbour_35 : decode cX5_namedHarbour 35 = .ok (.goto 4, 3) := by decide +kernel
theorem dX5_namedHarbour_38 : decode cX5_namedHarbour 38 = .ok (.iconst 0, 1) := by decide +kernel
theorem dX5_namedHarbour_39 : decode cX5_namedHarbour 39 = .ok (.istore_n 2, 1) := by decide +kernel
theorem dX5_namedHarbour_40 : decode cX5_namedHarbour 40 = .ok (.iconst 0, 1) := by decide +kernel
theorem dX5_namedHarbour_41 : decode cX5_namedHarbour 41 = .ok (.istore_n 3, 1) := by decide +kernel
theorem dX5_namedHarbour_42 : decode cX5_namedHarbour 42 = .ok (.iload_n 3, 1) := by decide +kernel
theorem dX5_namedHarbour_43 : decode cX5_namedHarbour 43 = .ok (.aload_n 0, 1) := by decide +kernel
theorem dX5_namedHarbour_44 : decode cX5_namedHarbour 44 = .ok (.getfield 92, 3) := by decide +kernel
theorem dX5_namedHarbour_47 : decode cX5_namedHarbour 47 = .ok (.if_icmp .ge 44, 3) := by decide +kernel
theorem dX5_namedHarbour_50 : decode cX5_namedHarbour 50 = .ok (.iload_n 2, 1) := by decide +kernel
theorem dX5_namedHarbour_51 : decode cX5_namedHarbour 51 = .ok (.ifCond .eq 40, 3) := by decide +kernel
theorem dX5_namedHarbour_54 : decode cX5_namedHarbour 54 = .ok (.aload_n 0, 1) := by decide +kernel
theorem dX5_namedHarbour_55 : decode cX5_namedHarbour 55 = .ok (.getfield 12, 3) := by decide +kernel
theorem dX5_namedHarbour_58 : decode cX5_namedHarbour 58 = .ok (.getfield 125, 3) := by decide +kernel
theorem dX5_namedHarbour_61 : decode cX5_namedHarbour 61 = .ok (.iload_n 1, 1) := by decide +kernel
theorem dX5_namedHarbour_62 : decode cX5_namedHarbour 62 = .ok (.iload_n 3, 1) := by decide +kernel
theorem dX5_namedHarbour_63 : decode cX5_namedHarbour 63 = .ok (.invokevirtual 137, 3) := by decide +kernel
theorem dX5_namedHarbour_66 : decode cX5_namedHarbour 66 = .ok (.aload_n 0, 1) := by decide +kernel
theorem dX5_namedHarbour_67 : decode cX5_namedHarbour 67 = .ok (.aload_n 0, 1) := by decide +kernel
theorem dX5_namedHarbour_68 : decode cX5_namedHarbour 68 = .ok (.getfield 85, 3) := by decide +kernel
theorem dX5_namedHarbour_71 : decode cX5_namedHarbour 71 = .ok (.iload_n 3, 1) := by decide +kernel
theorem dX5_namedHarbour_72 : decode cX5_namedHarbour 72 = .ok (.iadd, 1) := by decide +kernel
theorem dX5_namedHarbour_73 : decode cX5_namedHarbour 73 = .ok (.invokevirtual 81, 3) := by decide +kernel
theorem dX5_namedHarbour_76 : decode cX5_namedHarbour 76 = .ok (.if_icmp .ne 7, 3) := by decide +kernel
theorem dX5_namedHarbour_79 : decode cX5_namedHarbour 79 = .ok (.iconst 1, 1) := by decide +kernel
theorem dX5_namedHarbour_80 : decode cX5_namedHarbour 80 = .ok (.goto 4, 3) := by decide +kernel
theorem dX5_namedHarbour_83 : decode cX5_namedHarbour 83 = .ok (.iconst 0, 1) := by decide +kernel
theorem dX5_namedHarbour_84 : decode cX5_namedHarbour 84 = .ok (.istore_n 2, 1) := by decide +kernel
theorem dX5_namedHarbour_85 : decode cX5_namedHarbour 85 = .ok (.iinc 3 1, 3) := by decide +kernel
theorem dX5_namedHarbour_88 : decode cX5_namedHarbour 88 = .ok (.goto (-46), 3) := by decide +kernel
theorem dX5_namedHarbour_91 : decode cX5_namedHarbour 91 = .ok (.iload_n 2, 1) := by decide +kernel
theorem dX5_namedHarbour_92 : decode cX5_namedHarbour 92 = .ok (.ifCond .eq 5, 3) := by decide +kernel
theorem dX5_namedHarbour_95 : decode cX5_namedHarbour 95 = .ok (.iload_n 1, 1) := by decide +kernel
theorem dX5_namedHarbour_96 : decode cX5_namedHarbour 96 = .ok (.ireturn, 1) := by decide +kernel
theorem dX5_namedHarbour_97 : decode cX5_namedHarbour 97 = .ok (.iinc 1 1, 3) := by decide +kernel
theorem dX5_namedHarbour_100 : decode cX5_namedHarbour 100 = .ok (.goto (-98), 3) := by decide +kernel
theorem dX5_namedHarbour_103 : decode cX5_namedHarbour 103 = .ok (.iconst (-1), 1) := by decide +kernel
theorem dX5_namedHarbour_104 : decode cX5_namedHarbour 104 = .ok (.ireturn, 1) := by decide +kernel
set_option maxRecDepth 20000 in
theorem ggX5_takeCell_X5_takeNumber : GoodIn wsX5_takeCell wsX5_takeNumber := goodIn_r _ [8, 9, 10, 2, 11, 12, 13, 14, 15, 16, 17, 18, 7, 19, 20, 21, 22, 23, 24, 25, 26, 27, 28, 29, 30, 31, 32, 33, 34, 35, 36, 37, 38, 39, 40, 41, 42, 43, 44, 45, 46, 47] (by decide +kernel) (by decide +kernel)
set_option maxRecDepth 20000 in
theorem gX5_takeCell_X5_takeNumber : GoodIn wsX5_takeCell (wsV RX5 149 RX5 yX5_takeNumber wsX5_takeNumber) := goodIn_app (goodIn_of _ (by decide +kernel)) ggX5_takeCell_X5_takeNumber
theorem dX5_takeCell_0 : decode cX5_takeCell 0 = .ok (.aload_n 0, 1) := by decide +kernel
theorem dX5_takeCell_1 : decode cX5_takeCell 1 = .ok (.iconst 0, 1) := by decide +kernel
theorem dX5_takeCell_2 : decode cX5_takeCell 2 = .ok (.aload_n 0, 1) := by decide +kernel
theorem dX5_takeCell_3 : decode cX5_takeCell 3 = .ok (.getfield 12, 3) := by decide +kernel
theorem dX5_takeCell_6 : decode cX5_takeCell 6 = .ok (.getfield 140, 3) := by decide +kernel
theorem dX5_takeCell_9 : decode cX5_takeCell 9 = .ok (.getfield 144, 3) := by decide +kernel
theorem dX5_takeCell_12 : decode cX5_takeCell 12 = .ok (.iconst 1, 1) := by decide +kernel
theorem dX5_takeCell_13 : decode cX5_takeCell 13 = .ok (.isub, 1) := by decide +kernel
theorem dX5_takeCell_14 : decode cX5_takeCell 14 = .ok (.invokevirtual 149, 3) := by decide +kernel
theorem dX5_takeCell_17 : decode cX5_takeCell 17 = .ok (.ifCond .ne 5, 3) := by decide +kernel
theorem dX5_takeCell_20 : decode cX5_takeCell 20 = .ok (.iconst 0, 1) := by decide +kernel
theorem dX5_takeCell_21 : decode cX5_takeCell 21 = .ok (.ireturn, 1) := by decide +kernel
theorem dX5_takeCell_22 : decode cX5_takeCell 22 = .ok (.aload_n 0, 1) := by decide +kernel
theorem dX5_takeCell_23 : decode cX5_takeCell 23 = .ok (.getfield 110, 3) := by decide +kernel
theorem dX5_takeCell_26 : decode cX5_takeCell 26 = .ok (.istore_n 1, 1) := by decide +kernel
theorem dX5_takeCell_27 : decode cX5_takeCell 27 = .ok (.aload_n 0, 1) := by decide +kernel
theorem dX5_takeCell_28 : decode cX5_takeCell 28 = .ok (.iconst 0, 1) := by decide +kernel
theorem dX5_takeCell_29 : decode cX5_takeCell 29 = .ok (.aload_n 0, 1) := by decide +kernel
theorem dX5_takeCell_30 : decode cX5_takeCell 30 = .ok (.getfield 12, 3) := by decide +kernel
theorem dX5_takeCell_33 : decode cX5_takeCell 33 = .ok (.getfield 140, 3) := by decide +kernel
theorem dX5_takeCell_36 : decode cX5_takeCell 36 = .ok (.getfield 152, 3) := by decide +kernel
theorem dX5_takeCell_39 : decode cX5_takeCell 39 = .ok (.iconst 1, 1) := by decide +kernel
theorem dX5_takeCell_40 : decode cX5_takeCell 40 = .ok (.isub, 1) := by decide +kernel
theorem dX5_takeCell_41 : decode cX5_takeCell 41 = .ok (.invokevirtual 149, 3) := by decide +kernel
theorem dX5_takeCell_44 : decode cX5_takeCell 44 = .ok (.ifCond .ne 5, 3) := by decide +kernel
theorem dX5_takeCell_47 : decode cX5_takeCell 47 = .ok (.iconst 0, 1) := by decide +kernel
theorem dX5_takeCell_48 : decode cX5_takeCell 48 = .ok (.ireturn, 1) := by decide +kernel
theorem dX5_takeCell_49 : decode cX5_takeCell 49 = .ok (.aload_n 0, 1) := by decide +kernel
theorem dX5_takeCell_50 : decode cX5_takeCell 50 = .ok (.iload_n 1, 1) := by decide +kernel
theorem dX5_takeCell_51 : decode cX5_takeCell 51 = .ok (.aload_n 0, 1) := by decide +kernel
theorem dX5_takeCell_52 : decode cX5_takeCell 52 = .ok (.getfield 12, 3) := by decide +kernel
theorem dX5_takeCell_55 : decode cX5_takeCell 55 = .ok (.getfield 140, 3) := by decide +kernel
theorem dX5_takeCell_58 : decode cX5_takeCell 58 = .ok (.getfield 152, 3) := by decide +kernel
theorem dX5_takeCell_61 : decode cX5_takeCell 61 = .ok (.imul, 1) := by decide +kernel
theorem dX5_takeCell_62 : decode cX5_takeCell 62 = .ok (.aload_n 0, 1) := by decide +kernel
theorem dX5_takeCell_63 : decode cX5_takeCell 63 = .ok (.getfield 110, 3) := by decide +kernel
theorem dX5_takeCell_66 : decode cX5_takeCell 66 = .ok (.iadd, 1) := by decide +kernel
theorem dX5_takeCell_67 : decode cX5_takeCell 67 = .ok (.putfield 155, 3) := by decide +kernel
theorem dX5_takeCell_70 : decode cX5_takeCell 70 = .ok (.iconst 1, 1) := by decide +kernel
theorem dX5_takeCell_71 : decode cX5_takeCell 71 = .ok (.ireturn, 1) := by decide +kernel
set_option maxRecDepth 20000 in
theorem ggX5_readChart_X5_takeWord : GoodIn wsX5_readChart wsX5_takeWord := goodIn_r _ [8, 9, 1, 10, 11, 12, 13, 14, 7, 15, 16, 17, 18, 19, 20, 21, 22, 23, 24, 25, 26, 27, 28, 29, 132, 133, 134, 135, 136, 137, 138, 139, 140, 141, 142, 143, 144, 145] (by decide +kernel) (by decide +kernel)
set_option maxRecDepth 20000 in
theorem gX5_readChart_X5_takeWord : GoodIn wsX5_readChart (wsV RX5 122 RX5 yX5_takeWord wsX5_takeWord) := goodIn_app (goodIn_of _ (by decide +kernel)) ggX5_readChart_X5_takeWord
set_option maxRecDepth 20000 in
theorem ggX5_readChart_X5_wordIs : GoodIn wsX5_readChart wsX5_wordIs := goodIn_r _ [33, 11, 1, 34, 35, 36, 37, 38, 39, 40, 41, 42, 43, 44, 45, 16, 17, 18, 7, 19, 10, 20, 46, 47, 48, 49, 50, 51, 52, 53, 54, 55, 56, 57, 58, 59, 60, 61, 62, 63, 64, 65, 66, 67, 68, 69, 70, 71, 72, 73, 74, 75, 76, 77, 78, 79, 80, 81, 82, 132, 133, 134, 135, 136, 137, 138, 139, 140, 141, 142, 143, 144, 145] (by decide +kernel) (by decide +kernel)
set_option maxRecDepth 20000 in
theorem gX5_readChart_X5_wordIs : GoodIn wsX5_readChart (wsV RX5 160 RX5 yX5_wordIs wsX5_wordIs) := goodIn_app (goodIn_of _ (by decide +kernel)) ggX5_readChart_X5_wordIs
set_option maxRecDepth 20000 in
theorem ggX5_readChart_X5_fail : GoodIn wsX5_readChart wsX5_fail := goodIn_r _ [27, 28, 29, 132, 133, 134, 135, 136, 137, 138, 139, 140, 141, 142, 143, 144, 145] (by decide +kernel) (by decide +kernel)
set_option maxRecDepth 20000 in
theorem gX5_readChart_X5_fail : GoodIn wsX5_readChart (wsV RX5 95 RX5 yX5_fail wsX5_fail) := goodIn_app (goodIn_of _ (by decide +kernel)) ggX5_readChart_X5_fail
set_option maxRecDepth 20000 in
theorem ggX5_readChart_X5_takeNumber : GoodIn wsX5_readChart wsX5_takeNumber := goodIn_r _ [86, 9, 87, 2, 10, 88, 89, 90, 91, 12, 13, 14, 7, 15, 16, 17, 18, 19, 20, 92, 93, 94, 24, 25, 26, 27, 28, 29, 132, 133, 134, 135, 136, 137, 138, 139, 140, 141, 142, 143, 144, 145] (by decide +kernel) (by decide +kernel)
set_option maxRecDepth 20000 in
theorem gX5_readChart_X5_takeNumber : GoodIn wsX5_readChart (wsV RX5 149 RX5 yX5_takeNumber wsX5_takeNumber) := goodIn_app (goodIn_of _ (by decide +kernel)) ggX5_readChart_X5_takeNumber
set_option maxRecDepth 20000 in
theorem ggX5_readChart_X6_beginSea : GoodIn wsX5_readChart wsX6_beginSea := goodIn_r _ [99, 100, 101, 102, 103, 104, 105, 106, 107, 108, 109, 110, 111, 112, 113, 114, 115, 116, 117, 118, 119, 120, 121, 122, 123, 124, 125, 126, 127, 128, 129, 130, 131, 146, 147, 148, 149, 150, 151, 152, 153, 154, 155, 156, 157, 158, 159, 160, 161, 162, 163, 164, 165, 166, 167] (by decide +kernel) (by decide +kernel)
set_option maxRecDepth 20000 in
theorem gX5_readChart_X6_beginSea : GoodIn wsX5_readChart (wsV RX5 164 RX6 yX6_beginSea wsX6_beginSea) := goodIn_app (goodIn_of _ (by decide +kernel)) ggX5_readChart_X6_beginSea
theorem dX5_readChart_0 : decode cX5_readChart 0 = .ok (.aload_n 0, 1) := by decide +kernel
theorem dX5_readChart_1 : decode cX5_readChart 1 = .ok (.invokevirtual 122, 3) := by decide +kernel
theorem dX5_readChart_4 : decode cX5_readChart 4 = .ok (.ifCond .ne 5, 3) := by decide +kernel
theorem dX5_readChart_7 : decode cX5_readChart 7 = .ok (.iconst 0, 1) := by decide +kernel
theorem dX5_readChart_8 : decode cX5_readChart 8 = .ok (.ireturn, 1) := by decide +kernel
theorem dX5_readChart_9 : decode cX5_readChart 9 = .ok (.aload_n 0, 1) := by decide +kernel
theorem dX5_readChart_10 : decode cX5_readChart 10 = .ok (.ldc 158, 2) := by decide +kernel
theorem dX5_readChart_12 : decode cX5_readChart 12 = .ok (.invokevirtual 160, 3) := by decide +kernel
theorem dX5_readChart_15 : decode cX5_readChart 15 = .ok (.ifCond .ne 13, 3) := by decide +kernel
theorem dX5_readChart_18 : decode cX5_readChart 18 = .ok (.aload_n 0, 1) := by decide +kernel
theorem dX5_readChart_19 : decode cX5_readChart 19 = .ok (.iconst 1, 1) := by decide +kernel
theorem dX5_readChart_20 : decode cX5_readChart 20 = .ok (.aload_n 0, 1) := by decide +kernel
theorem dX5_readChart_21 : decode cX5_readChart 21 = .ok (.getfield 85, 3) := by decide +kernel
theorem dX5_readChart_24 : decode cX5_readChart 24 = .ok (.invokevirtual 95, 3) := by decide +kernel
theorem dX5_readChart_27 : decode cX5_readChart 27 = .ok (.ireturn, 1) := by decide +kernel
theorem dX5_readChart_28 : decode cX5_readChart 28 = .ok (.aload_n 0, 1) := by decide +kernel
theorem dX5_readChart_29 : decode cX5_readChart 29 = .ok (.iconst 3, 1) := by decide +kernel
theorem dX5_readChart_30 : decode cX5_readChart 30 = .ok (.bipush 12, 2) := by decide +kernel
theorem dX5_readChart_32 : decode cX5_readChart 32 = .ok (.invokevirtual 149, 3) := by decide +kernel
theorem dX5_readChart_35 : decode cX5_readChart 35 = .ok (.ifCond .ne 5, 3) := by decide +kernel
theorem dX5_readChart_38 : decode cX5_readChart 38 = .ok (.iconst 0, 1) := by decide +kernel
theorem dX5_readChart_39 : decode cX5_readChart 39 = .ok (.ireturn, 1) := by decide +kernel
theorem dX5_readChart_40 : decode cX5_readChart 40 = .ok (.aload_n 0, 1) := by decide +kernel
theorem dX5_readChart_41 : decode cX5_readChart 41 = .ok (.getfield 110, 3) := by decide +kernel
theorem dX5_readChart_44 : decode cX5_readChart 44 = .ok (.istore_n 1, 1) := by decide +kernel
theorem dX5_readChart_45 : decode cX5_readChart 45 = .ok (.aload_n 0, 1) := by decide +kernel
theorem dX5_readChart_46 : decode cX5_readChart 46 = .ok (.iconst 3, 1) := by decide +kernel
theorem dX5_readChart_47 : decode cX5_readChart 47 = .ok (.bipush 12, 2) := by decide +kernel
theorem dX5_readChart_49 : decode cX5_readChart 49 = .ok (.invokevirtual 149, 3) := by decide +kernel
theorem dX5_readChart_52 : decode cX5_readChart 52 = .ok (.ifCond .ne 5, 3) := by decide +kernel
theorem dX5_readChart_55 : decode cX5_readChart 55 = .ok (.iconst 0, 1) := by decide +kernel
theorem dX5_readChart_56 : decode cX5_readChart 56 = .ok (.ireturn, 1) := by decide +kernel
theorem dX5_readChart_57 : decode cX5_readChart 57 = .ok (.aload_n 0, 1) := by decide +kernel
theorem dX5_readChart_58 : decode cX5_readChart 58 = .ok (.getfield 12, 3) := by decide +kernel
theorem dX5_readChart_61 : decode cX5_readChart 61 = .ok (.iload_n 1, 1) := by decide +kernel
theorem dX5_readChart_62 : decode cX5_readChart 62 = .ok (.aload_n 0, 1) := by decide +kernel
theorem dX5_readChart_63 : decode cX5_readChart 63 = .ok (.getfield 110, 3) := by decide +kernel
theorem dX5_readChart_66 : decode cX5_readChart 66 = .ok (.invokevirtual 164, 3) := by decide +kernel
theorem dX5_readChart_69 : decode cX5_readChart 69 = .ok (.iconst 1, 1) := by decide +kernel
theorem dX5_readChart_70 : decode cX5_readChart 70 = .ok (.ireturn, 1) := by decide +kernel
set_option maxRecDepth 20000 in
theorem ggX5_takeSemicolon_X5_nextSign : GoodIn wsX5_takeSemicolon wsX5_nextSign := goodIn_r _ [7, 8, 1, 9, 10, 11, 6, 12, 13, 20, 21, 22, 23, 24, 25, 26, 27, 28, 29, 30, 31, 32, 33] (by decide +kernel) (by decide +kernel)
set_option maxRecDepth 20000 in
theorem gX5_takeSemicolon_X5_nextSign : GoodIn wsX5_takeSemicolon (wsV RX5 53 RX5 yX5_nextSign wsX5_nextSign) := goodIn_app (goodIn_of _ (by decide +kernel)) ggX5_takeSemicolon_X5_nextSign
set_option maxRecDepth 20000 in
theorem ggX5_takeSemicolon_X5_fail : GoodIn wsX5_takeSemicolon wsX5_fail := goodIn_r _ [17, 18, 19, 20, 21, 22, 23, 24, 25, 26, 27, 28, 29, 30, 31, 32, 33] (by decide +kernel) (by decide +kernel)
set_option maxRecDepth 20000 in
theorem gX5_takeSemicolon_X5_fail : GoodIn wsX5_takeSemicolon (wsV RX5 95 RX5 yX5_fail wsX5_fail) := goodIn_app (goodIn_of _ (by decide +kernel)) ggX5_takeSemicolon_X5_fail
theorem dX5_takeSemicolon_0 : decode cX5_takeSemicolon 0 = .ok (.aload_n 0, 1) := by decide +kernel
theorem dX5_takeSemicolon_1 : decode cX5_takeSemicolon 1 = .ok (.invokevirtual 53, 3) := by decide +kernel
theorem dX5_takeSemicolon_4 : decode cX5_takeSemicolon 4 = .ok (.bipush 59, 2) := by decide +kernel
theorem dX5_takeSemicolon_6 : decode cX5_takeSemicolon 6 = .ok (.if_icmp .eq 13, 3) := by decide +kernel
theorem dX5_takeSemicolon_9 : decode cX5_takeSemicolon 9 = .ok (.aload_n 0, 1) := by decide +kernel
theorem dX5_takeSemicolon_10 : decode cX5_takeSemicolon 10 = .ok (.iconst 1, 1) := by decide +kernel
theorem dX5_takeSemicolon_11 : decode cX5_takeSemicolon 11 = .ok (.aload_n 0, 1) := by decide +kernel
theorem dX5_takeSemicolon_12 : decode cX5_takeSemicolon 12 = .ok (.getfield 33, 3) := by decide +kernel
theorem dX5_takeSemicolon_15 : decode cX5_takeSemicolon 15 = .ok (.invokevirtual 95, 3) := by decide +kernel
theorem dX5_takeSemicolon_18 : decode cX5_takeSemicolon 18 = .ok (.ireturn, 1) := by decide +kernel
theorem dX5_takeSemicolon_19 : decode cX5_takeSemicolon 19 = .ok (.aload_n 0, 1) := by decide +kernel
theorem dX5_takeSemicolon_20 : decode cX5_takeSemicolon 20 = .ok (.dup, 1) := by decide +kernel
theorem dX5_takeSemicolon_21 : decode cX5_takeSemicolon 21 = .ok (.getfield 33, 3) := by decide +kernel
theorem dX5_takeSemicolon_24 : decode cX5_takeSemicolon 24 = .ok (.iconst 1, 1) := by decide +kernel
theorem dX5_takeSemicolon_25 : decode cX5_takeSemicolon 25 = .ok (.iadd, 1) := by decide +kernel
theorem dX5_takeSemicolon_26 : decode cX5_takeSemicolon 26 = .ok (.putfield 33, 3) := by decide +kernel
theorem dX5_takeSemicolon_29 : decode cX5_takeSemicolon 29 = .ok (.aload_n 0, 1) := by decide +kernel
theorem dX5_takeSemicolon_30 : decode cX5_takeSemicolon 30 = .ok (.dup, 1) := by decide +kernel
theorem dX5_takeSemicolon_31 : decode cX5_takeSemicolon 31 = .ok (.getfield 36, 3) := by decide +kernel
theorem dX5_takeSemicolon_34 : decode cX5_takeSemicolon 34 = .ok (.iconst 1, 1) := by decide +kernel
theorem dX5_takeSemicolon_35 : decode cX5_takeSemicolon 35 = .ok (.iadd, 1) := by decide +kernel
theorem dX5_takeSemicolon_36 : decode cX5_takeSemicolon 36 = .ok (.putfield 36, 3) := by decide +kernel
theorem dX5_takeSemicolon_39 : decode cX5_takeSemicolon 39 = .ok (.iconst 1, 1) := by decide +kernel
theorem dX5_takeSemicolon_40 : decode cX5_takeSemicolon 40 = .ok (.ireturn, 1) := by decide +kernel
set_option maxRecDepth 20000 in
theorem ggX5_takeKeyword_X5_takeWord : GoodIn wsX5_takeKeyword wsX5_takeWord := goodIn_r _ [6, 7, 1, 8, 9, 10, 11, 12, 5, 13, 14, 15, 16, 17, 18, 19, 20, 21, 22, 23, 24, 25, 26, 27, 81, 82, 83, 84, 85, 86, 87, 88, 89, 90, 91, 92, 93, 94] (by decide +kernel) (by decide +kernel)
set_option maxRecDepth 20000 in
theorem gX5_takeKeyword_X5_takeWord : GoodIn wsX5_takeKeyword (wsV RX5 122 RX5 yX5_takeWord wsX5_takeWord) := goodIn_app (goodIn_of _ (by decide +kernel)) ggX5_takeKeyword_X5_takeWord
set_option maxRecDepth 20000 in
theorem ggX5_takeKeyword_X5_wordIs : GoodIn wsX5_takeKeyword wsX5_wordIs := goodIn_r _ [31, 9, 1, 32, 33, 34, 35, 36, 37, 38, 39, 40, 41, 42, 43, 14, 15, 16, 5, 17, 8, 18, 44, 45, 46, 47, 48, 49, 50, 51, 52, 53, 54, 55, 56, 57, 58, 59, 60, 61, 62, 63, 64, 65, 66, 67, 68, 69, 70, 71, 72, 73, 74, 75, 76, 77, 78, 79, 80, 81, 82, 83, 84, 85, 86, 87, 88, 89, 90, 91, 92, 93, 94] (by decide +kernel) (by decide +kernel)
set_option maxRecDepth 20000 in
theorem gX5_takeKeyword_X5_wordIs : GoodIn wsX5_takeKeyword (wsV RX5 160 RX5 yX5_wordIs wsX5_wordIs) := goodIn_app (goodIn_of _ (by decide +kernel)) ggX5_takeKeyword_X5_wordIs
set_option maxRecDepth 20000 in
theorem ggX5_takeKeyword_X5_fail : GoodIn wsX5_takeKeyword wsX5_fail := goodIn_r _ [25, 26, 27, 81, 82, 83, 84, 85, 86, 87, 88, 89, 90, 91, 92, 93, 94] (by decide +kernel) (by decide +kernel)
set_option maxRecDepth 20000 in
theorem gX5_takeKeyword_X5_fail : GoodIn wsX5_takeKeyword (wsV RX5 95 RX5 yX5_fail wsX5_fail) := goodIn_app (goodIn_of _ (by decide +kernel)) ggX5_takeKeyword_X5_fail
theorem dX5_takeKeyword_0 : decode cX5_takeKeyword 0 = .ok (.aload_n 0, 1) := by decide +kernel
theorem dX5_takeKeyword_1 : decode cX5_takeKeyword 1 = .ok (.invokevirtual 122, 3) := by decide +kernel
theorem dX5_takeKeyword_4 : decode cX5_takeKeyword 4 = .ok (.ifCond .ne 5, 3) := by decide +kernel
theorem dX5_takeKeyword_7 : decode cX5_takeKeyword 7 = .ok (.iconst (-1), 1) := by decide +kernel
theorem dX5_takeKeyword_8 : decode cX5_takeKeyword 8 = .ok (.ireturn, 1) := by decide +kernel
theorem dX5_takeKeyword_9 : decode cX5_takeKeyword 9 = .ok (.aload_n 0, 1) := by decide +kernel
theorem dX5_takeKeyword_10 : decode cX5_takeKeyword 10 = .ok (.ldc 168, 2) := by decide +kernel
theorem dX5_takeKeyword_12 : decode cX5_takeKeyword 12 = .ok (.invokevirtual 160, 3) := by decide +kernel
theorem dX5_takeKeyword_15 : decode cX5_takeKeyword 15 = .ok (.ifCond .eq 7, 3) := by decide +kernel
theorem dX5_takeKeyword_18 : decode cX5_takeKeyword 18 = .ok (.iconst 1, 1) := by decide +kernel
theorem dX5_takeKeyword_19 : decode cX5_takeKeyword 19 = .ok (.goto 70, 3) := by decide +kernel
theorem dX5_takeKeyword_22 : decode cX5_takeKeyword 22 = .ok (.aload_n 0, 1) := by decide +kernel
theorem dX5_takeKeyword_23 : decode cX5_takeKeyword 23 = .ok (.ldc 170, 2) := by decide +kernel
theorem dX5_takeKeyword_25 : decode cX5_takeKeyword 25 = .ok (.invokevirtual 160, 3) := by decide +kernel
theorem dX5_takeKeyword_28 : decode cX5_takeKeyword 28 = .ok (.ifCond .eq 7, 3) := by decide +kernel
theorem dX5_takeKeyword_31 : decode cX5_takeKeyword 31 = .ok (.iconst 2, 1) := by decide +kernel
theorem dX5_takeKeyword_32 : decode cX5_takeKeyword 32 = .ok (.goto 57, 3) := by decide +kernel
theorem dX5_takeKeyword_35 : decode cX5_takeKeyword 35 = .ok (.aload_n 0, 1) := by decide +kernel
theorem dX5_takeKeyword_36 : decode cX5_takeKeyword 36 = .ok (.ldc 172, 2) := by decide +kernel
theorem dX5_takeKeyword_38 : decode cX5_takeKeyword 38 = .ok (.invokevirtual 160, 3) := by decide +kernel
theorem dX5_takeKeyword_41 : decode cX5_takeKeyword 41 = .ok (.ifCond .eq 7, 3) := by decide +kernel
theorem dX5_takeKeyword_44 : decode cX5_takeKeyword 44 = .ok (.iconst 3, 1) := by decide +kernel
theorem dX5_takeKeyword_45 : decode cX5_takeKeyword 45 = .ok (.goto 44, 3) := by decide +kernel
theorem dX5_takeKeyword_48 : decode cX5_takeKeyword 48 = .ok (.aload_n 0, 1) := by decide +kernel
theorem dX5_takeKeyword_49 : decode cX5_takeKeyword 49 = .ok (.ldc 174, 2) := by decide +kernel
theorem dX5_takeKeyword_51 : decode cX5_takeKeyword 51 = .ok (.invokevirtual 160, 3) := by decide +kernel
theorem dX5_takeKeyword_54 : decode cX5_takeKeyword 54 = .ok (.ifCond .eq 7, 3) := by decide +kernel
theorem dX5_takeKeyword_57 : decode cX5_takeKeyword 57 = .ok (.iconst 4, 1) := by decide +kernel
theorem dX5_takeKeyword_58 : decode cX5_takeKeyword 58 = .ok (.goto 31, 3) := by decide +kernel
theorem dX5_takeKeyword_61 : decode cX5_takeKeyword 61 = .ok (.aload_n 0, 1) := by decide +kernel
theorem dX5_takeKeyword_62 : decode cX5_takeKeyword 62 = .ok (.ldc 176, 2) := by decide +kernel
theorem dX5_takeKeyword_64 : decode cX5_takeKeyword 64 = .ok (.invokevirtual 160, 3) := by decide +kernel
theorem dX5_takeKeyword_67 : decode cX5_takeKeyword 67 = .ok (.ifCond .eq 7, 3) := by decide +kernel
theorem dX5_takeKeyword_70 : decode cX5_takeKeyword 70 = .ok (.iconst 5, 1) := by decide +kernel
theorem dX5_takeKeyword_71 : decode cX5_takeKeyword 71 = .ok (.goto 18, 3) := by decide +kernel
theorem dX5_takeKeyword_74 : decode cX5_takeKeyword 74 = .ok (.aload_n 0, 1) := by decide +kernel
theorem dX5_takeKeyword_75 : decode cX5_takeKeyword 75 = .ok (.ldc 178, 2) := by decide +kernel
theorem dX5_takeKeyword_77 : decode cX5_takeKeyword 77 = .ok (.invokevirtual 160, 3) := by decide +kernel
theorem dX5_takeKeyword_80 : decode cX5_takeKeyword 80 = .ok (.ifCond .eq 8, 3) := by decide +kernel
theorem dX5_takeKeyword_83 : decode cX5_takeKeyword 83 = .ok (.bipush 6, 2) := by decide +kernel
theorem dX5_takeKeyword_85 : decode cX5_takeKeyword 85 = .ok (.goto 4, 3) := by decide +kernel
theorem dX5_takeKeyword_88 : decode cX5_takeKeyword 88 = .ok (.iconst (-1), 1) := by decide +kernel
theorem dX5_takeKeyword_89 : decode cX5_takeKeyword 89 = .ok (.istore_n 1, 1) := by decide +kernel
theorem dX5_takeKeyword_90 : decode cX5_takeKeyword 90 = .ok (.iload_n 1, 1) := by decide +kernel
theorem dX5_takeKeyword_91 : decode cX5_takeKeyword 91 = .ok (.iconst (-1), 1) := by decide +kernel
theorem dX5_takeKeyword_92 : decode cX5_takeKeyword 92 = .ok (.if_icmp .ne 13, 3) := by decide +kernel
theorem dX5_takeKeyword_95 : decode cX5_takeKeyword 95 = .ok (.aload_n 0, 1) := by decide +kernel
theorem dX5_takeKeyword_96 : decode cX5_takeKeyword 96 = .ok (.iconst 1, 1) := by decide +kernel
theorem dX5_takeKeyword_97 : decode cX5_takeKeyword 97 = .ok (.aload_n 0, 1) := by decide +kernel
theorem dX5_takeKeyword_98 : decode cX5_takeKeyword 98 = .ok (.getfield 85, 3) := by decide +kernel
theorem dX5_takeKeyword_101 : decode cX5_takeKeyword 101 = .ok (.invokevirtual 95, 3) := by decide +kernel
theorem dX5_takeKeyword_104 : decode cX5_takeKeyword 104 = .ok (.pop, 1) := by decide +kernel
theorem dX5_takeKeyword_105 : decode cX5_takeKeyword 105 = .ok (.iload_n 1, 1) := by decide +kernel
theorem dX5_takeKeyword_106 : decode cX5_takeKeyword 106 = .ok (.ireturn, 1) := by decide +kernel
set_option maxRecDepth 20000 in
theorem ggX5_readLand_X5_fail : GoodIn wsX5_readLand wsX5_fail := goodIn_r _ [13, 14, 15, 48, 49, 50, 51, 52, 53, 54, 55, 56, 57, 58, 59, 60, 61] (by decide +kernel) (by decide +kernel)
set_option maxRecDepth 20000 in
theorem gX5_readLand_X5_fail : GoodIn wsX5_readLand (wsV RX5 95 RX5 yX5_fail wsX5_fail) := goodIn_app (goodIn_of _ (by decide +kernel)) ggX5_readLand_X5_fail
set_option maxRecDepth 20000 in
theorem ggX5_readLand_X5_takeCell : GoodIn wsX5_readLand wsX5_takeCell := goodIn_r _ [19, 1, 4, 3, 20, 21, 22, 12, 23, 24, 25, 26, 27, 28, 7, 29, 30, 31, 32, 33, 34, 35, 36, 37, 38, 39, 40, 41, 9, 10, 11, 13, 14, 15, 48, 49, 50, 51, 52, 53, 54, 55, 56, 57, 58, 59, 60, 61, 62, 63, 64, 65, 66, 73, 74, 75, 76, 77, 78] (by decide +kernel) (by decide +kernel)
set_option maxRecDepth 20000 in
theorem gX5_readLand_X5_takeCell : GoodIn wsX5_readLand (wsV RX5 183 RX5 yX5_takeCell wsX5_takeCell) := goodIn_app (goodIn_of _ (by decide +kernel)) ggX5_readLand_X5_takeCell
set_option maxRecDepth 20000 in
theorem ggX5_readLand_X5_takeNumber : GoodIn wsX5_readLand wsX5_takeNumber := goodIn_r _ [23, 24, 25, 4, 26, 27, 28, 7, 29, 30, 31, 32, 12, 33, 34, 35, 36, 37, 38, 39, 40, 41, 9, 10, 11, 13, 14, 15, 48, 49, 50, 51, 52, 53, 54, 55, 56, 57, 58, 59, 60, 61] (by decide +kernel) (by decide +kernel)
set_option maxRecDepth 20000 in
theorem gX5_readLand_X5_takeNumber : GoodIn wsX5_readLand (wsV RX5 149 RX5 yX5_takeNumber wsX5_takeNumber) := goodIn_app (goodIn_of _ (by decide +kernel)) ggX5_readLand_X5_takeNumber
set_option maxRecDepth 20000 in
theorem ggX5_readLand_X1_setLand : GoodIn wsX5_readLand wsX1_setLand := goodIn_r _ [46, 47, 73, 74, 75, 76, 77, 78] (by decide +kernel) (by decide +kernel)
set_option maxRecDepth 20000 in
theorem gX5_readLand_X1_setLand : GoodIn wsX5_readLand (wsV RX5 189 RX1 yX1_setLand wsX1_setLand) := goodIn_app (goodIn_of _ (by decide +kernel)) ggX5_readLand_X1_setLand
theorem dX5_readLand_0 : decode cX5_readLand 0 = .ok (.aload_n 0, 1) := by decide +kernel
theorem dX5_readLand_1 : decode cX5_readLand 1 = .ok (.getfield 12, 3) := by decide +kernel
theorem dX5_readLand_4 : decode cX5_readLand 4 = .ok (.getfield 125, 3) := by decide +kernel
theorem dX5_readLand_7 : decode cX5_readLand 7 = .ok (.getfield 129, 3) := by decide +kernel
theorem dX5_readLand_10 : decode cX5_readLand 10 = .ok (.ifCond .gt 16, 3) := by decide +kernel
theorem dX5_readLand_13 : decode cX5_readLand 13 = .ok (.aload_n 0, 1) := by decide +kernel
theorem dX5_readLand_14 : decode cX5_readLand 14 = .ok (.getfield 12, 3) := by decide +kernel
theorem dX5_readLand_17 : decode cX5_readLand 17 = .ok (.getfield 140, 3) := by decide +kernel
theorem dX5_readLand_20 : decode cX5_readLand 20 = .ok (.getfield 180, 3) := by decide +kernel
theorem dX5_readLand_23 : decode cX5_readLand 23 = .ok (.ifCond .le 13, 3) := by decide +kernel
theorem dX5_readLand_26 : decode cX5_readLand 26 = .ok (.aload_n 0, 1) := by decide +kernel
theorem dX5_readLand_27 : decode cX5_readLand 27 = .ok (.iconst 3, 1) := by decide +kernel
theorem dX5_readLand_28 : decode cX5_readLand 28 = .ok (.aload_n 0, 1) := by decide +kernel
theorem dX5_readLand_29 : decode cX5_readLand 29 = .ok (.getfield 85, 3) := by decide +kernel
theorem dX5_readLand_32 : decode cX5_readLand 32 = .ok (.invokevirtual 95, 3) := by decide +kernel
theorem dX5_readLand_35 : decode cX5_readLand 35 = .ok (.ireturn, 1) := by decide +kernel
theorem dX5_readLand_36 : decode cX5_readLand 36 = .ok (.aload_n 0, 1) := by decide +kernel
theorem dX5_readLand_37 : decode cX5_readLand 37 = .ok (.invokevirtual 183, 3) := by decide +kernel
theorem dX5_readLand_40 : decode cX5_readLand 40 = .ok (.ifCond .ne 5, 3) := by decide +kernel
theorem dX5_readLand_43 : decode cX5_readLand 43 = .ok (.iconst 0, 1) := by decide +kernel
theorem dX5_readLand_44 : decode cX5_readLand 44 = .ok (.ireturn, 1) := by decide +kernel
theorem dX5_readLand_45 : decode cX5_readLand 45 = .ok (.aload_n 0, 1) := by decide +kernel
theorem dX5_readLand_46 : decode cX5_readLand 46 = .ok (.getfield 155, 3) := by decide +kernel
theorem dX5_readLand_49 : decode cX5_readLand 49 = .ok (.istore_n 1, 1) := by decide +kernel
theorem dX5_readLand_50 : decode cX5_readLand 50 = .ok (.aload_n 0, 1) := by decide +kernel
theorem dX5_readLand_51 : decode cX5_readLand 51 = .ok (.aload_n 0, 1) := by decide +kernel
theorem dX5_readLand_52 : decode cX5_readLand 52 = .ok (.getfield 110, 3) := by decide +kernel
theorem dX5_readLand_55 : decode cX5_readLand 55 = .ok (.aload_n 0, 1) := by decide +kernel
theorem dX5_readLand_56 : decode cX5_readLand 56 = .ok (.getfield 12, 3) := by decide +kernel
theorem dX5_readLand_59 : decode cX5_readLand 59 = .ok (.getfield 140, 3) := by decide +kernel
theorem dX5_readLand_62 : decode cX5_readLand 62 = .ok (.getfield 152, 3) := by decide +kernel
theorem dX5_readLand_65 : decode cX5_readLand 65 = .ok (.iconst 1, 1) := by decide +kernel
theorem dX5_readLand_66 : decode cX5_readLand 66 = .ok (.isub, 1) := by decide +kernel
theorem dX5_readLand_67 : decode cX5_readLand 67 = .ok (.invokevirtual 149, 3) := by decide +kernel
theorem dX5_readLand_70 : decode cX5_readLand 70 = .ok (.ifCond .ne 5, 3) := by decide +kernel
theorem dX5_readLand_73 : decode cX5_readLand 73 = .ok (.iconst 0, 1) := by decide +kernel
theorem dX5_readLand_74 : decode cX5_readLand 74 = .ok (.ireturn, 1) := by decide +kernel
theorem dX5_readLand_75 : decode cX5_readLand 75 = .ok (.iload_n 1, 1) := by decide +kernel
theorem dX5_readLand_76 : decode cX5_readLand 76 = .ok (.iload_n 1, 1) := by decide +kernel
theorem dX5_readLand_77 : decode cX5_readLand 77 = .ok (.iconst 1, 1) := by decide +kernel
theorem dX5_readLand_78 : decode cX5_readLand 78 = .ok (.aload_n 0, 1) := by decide +kernel
theorem dX5_readLand_79 : decode cX5_readLand 79 = .ok (.getfield 12, 3) := by decide +kernel
theorem dX5_readLand_82 : decode cX5_readLand 82 = .ok (.getfield 140, 3) := by decide +kernel
theorem dX5_readLand_85 : decode cX5_readLand 85 = .ok (.getfield 152, 3) := by decide +kernel
theorem dX5_readLand_88 : decode cX5_readLand 88 = .ok (.invokestatic 186, 3) := by decide +kernel
theorem dX5_readLand_91 : decode cX5_readLand 91 = .ok (.irem, 1) := by decide +kernel
theorem dX5_readLand_92 : decode cX5_readLand 92 = .ok (.isub, 1) := by decide +kernel
theorem dX5_readLand_93 : decode cX5_readLand 93 = .ok (.aload_n 0, 1) := by decide +kernel
theorem dX5_readLand_94 : decode cX5_readLand 94 = .ok (.getfield 110, 3) := by decide +kernel
theorem dX5_readLand_97 : decode cX5_readLand 97 = .ok (.iadd, 1) := by decide +kernel
theorem dX5_readLand_98 : decode cX5_readLand 98 = .ok (.istore_n 2, 1) := by decide +kernel
theorem dX5_readLand_99 : decode cX5_readLand 99 = .ok (.iload_n 1, 1) := by decide +kernel
theorem dX5_readLand_100 : decode cX5_readLand 100 = .ok (.istore_n 3, 1) := by decide +kernel
theorem dX5_readLand_101 : decode cX5_readLand 101 = .ok (.iload_n 3, 1) := by decide +kernel
theorem dX5_readLand_102 : decode cX5_readLand 102 = .ok (.iload_n 2, 1) := by decide +kernel
theorem dX5_readLand_103 : decode cX5_readLand 103 = .ok (.if_icmp .gt 21, 3) := by decide +kernel
theorem dX5_readLand_106 : decode cX5_readLand 106 = .ok (.aload_n 0, 1) := by decide +kernel
theorem dX5_readLand_107 : decode cX5_readLand 107 = .ok (.getfield 12, 3) := by decide +kernel
theorem dX5_readLand_110 : decode cX5_readLand 110 = .ok (.getfield 140, 3) := by decide +kernel
theorem dX5_readLand_113 : decode cX5_readLand 113 = .ok (.iload_n 3, 1) := by decide +kernel
theorem dX5_readLand_114 : decode cX5_readLand 114 = .ok (.iconst 1, 1) := by decide +kernel
theorem dX5_readLand_115 : decode cX5_readLand 115 = .ok (.invokevirtual 189, 3) := by decide +kernel
theorem dX5_readLand_118 : decode cX5_readLand 118 = .ok (.iinc 3 1, 3) := by decide +kernel
theorem dX5_readLand_121 : decode cX5_readLand 121 = .ok (.goto (-20), 3) := by decide +kernel
theorem dX5_readLand_124 : decode cX5_readLand 124 = .ok (.iconst 1, 1) := by decide +kernel
theorem dX5_readLand_125 : decode cX5_readLand 125 = .ok (.ireturn, 1) := by decide +kernel
set_option maxRecDepth 20000 in
theorem ggX5_readHarbour_X5_fail : GoodIn wsX5_readHarbour wsX5_fail := goodIn_r _ [11, 12, 13, 175, 176, 177, 178, 179, 180, 181, 182, 183, 184, 185, 186, 187, 188] (by decide +kernel) (by decide +kernel)
set_option maxRecDepth 20000 in
theorem gX5_readHarbour_X5_fail : GoodIn wsX5_readHarbour (wsV RX5 95 RX5 yX5_fail wsX5_fail) := goodIn_app (goodIn_of _ (by decide +kernel)) ggX5_readHarbour_X5_fail
set_option maxRecDepth 20000 in
theorem ggX5_readHarbour_X5_takeName : GoodIn wsX5_readHarbour wsX5_takeName := goodIn_r _ [17, 3, 2, 18, 19, 20, 10, 21, 22, 23, 24, 25, 26, 27, 28, 29, 30, 31, 6, 32, 33, 34, 7, 8, 9, 11, 12, 13, 175, 176, 177, 178, 179, 180, 181, 182, 183, 184, 185, 186, 187, 188] (by decide +kernel) (by decide +kernel)
set_option maxRecDepth 20000 in
theorem gX5_readHarbour_X5_takeName : GoodIn wsX5_readHarbour (wsV RX5 193 RX5 yX5_takeName wsX5_takeName) := goodIn_app (goodIn_of _ (by decide +kernel)) ggX5_readHarbour_X5_takeName
set_option maxRecDepth 20000 in
theorem ggX5_readHarbour_X5_namedHarbour : GoodIn wsX5_readHarbour wsX5_namedHarbour := goodIn_r _ [38, 1, 3, 2, 39, 40, 41, 42, 43, 44, 45, 46, 47, 48, 49, 50, 51, 28, 29, 30, 10, 31, 23, 6, 175, 176, 177, 178, 179, 180, 181, 182, 183, 184, 185, 186, 187, 188, 189, 190, 191, 192, 193, 194, 195, 196, 197, 198, 199] (by decide +kernel) (by decide +kernel)
set_option maxRecDepth 20000 in
theorem gX5_readHarbour_X5_namedHarbour : GoodIn wsX5_readHarbour (wsV RX5 196 RX5 yX5_namedHarbour wsX5_namedHarbour) := goodIn_app (goodIn_of _ (by decide +kernel)) ggX5_readHarbour_X5_namedHarbour
set_option maxRecDepth 20000 in
theorem ggX5_readHarbour_X5_takeCell : GoodIn wsX5_readHarbour wsX5_takeCell := goodIn_r _ [55, 1, 56, 4, 57, 58, 59, 10, 60, 22, 5, 23, 61, 62, 63, 64, 24, 25, 26, 27, 28, 29, 30, 31, 6, 65, 66, 67, 7, 8, 9, 11, 12, 13, 175, 176, 177, 178, 179, 180, 181, 182, 183, 184, 185, 186, 187, 188, 189, 190, 191, 192, 193, 200, 201, 202, 203, 204, 205] (by decide +kernel) (by decide +kernel)
set_option maxRecDepth 20000 in
theorem gX5_readHarbour_X5_takeCell : GoodIn wsX5_readHarbour (wsV RX5 183 RX5 yX5_takeCell wsX5_takeCell) := goodIn_app (goodIn_of _ (by decide +kernel)) ggX5_readHarbour_X5_takeCell
set_option maxRecDepth 20000 in
theorem ggX5_readHarbour_X6_isOpen : GoodIn wsX5_readHarbour wsX6_isOpen := goodIn_r _ [72, 73, 74, 75, 76, 77, 78, 79, 80, 81, 82, 83, 84, 85, 86, 87, 88, 42, 89, 44, 90, 189, 190, 191, 192, 193, 200, 201, 202, 203, 204, 205, 194, 195, 196, 197, 198, 199] (by decide +kernel) (by decide +kernel)
set_option maxRecDepth 20000 in
theorem gX5_readHarbour_X6_isOpen : GoodIn wsX5_readHarbour (wsV RX5 199 RX6 yX6_isOpen wsX6_isOpen) := goodIn_app (goodIn_of _ (by decide +kernel)) ggX5_readHarbour_X6_isOpen
set_option maxRecDepth 20000 in
theorem ggX5_readHarbour_X6_namesIn : GoodIn wsX5_readHarbour wsX6_namesIn := goodIn_r _ [94, 95, 189, 190, 191, 192, 193] (by decide +kernel) (by decide +kernel)
set_option maxRecDepth 20000 in
theorem gX5_readHarbour_X6_namesIn : GoodIn wsX5_readHarbour (wsV RX5 202 RX6 yX6_namesIn wsX6_namesIn) := goodIn_app (goodIn_of _ (by decide +kernel)) ggX5_readHarbour_X6_namesIn
set_option maxRecDepth 20000 in
theorem ggX5_readHarbour_X1_hasSeaBeside : GoodIn wsX5_readHarbour wsX1_hasSeaBeside := goodIn_r _ [99, 100, 101, 102, 78, 103, 104, 105, 106, 76, 77, 79, 80, 200, 201, 202, 203, 204, 205] (by decide +kernel) (by decide +kernel)
set_option maxRecDepth 20000 in
theorem gX5_readHarbour_X1_hasSeaBeside : GoodIn wsX5_readHarbour (wsV RX5 205 RX1 yX1_hasSeaBeside wsX1_hasSeaBeside) := goodIn_app (goodIn_of _ (by decide +kernel)) ggX5_readHarbour_X1_hasSeaBeside
set_option maxRecDepth 20000 in
theorem ggX5_readHarbour_X2_addHarbour : GoodIn wsX5_readHarbour wsX2_addHarbour := goodIn_r _ [110, 44, 90, 111, 45, 112, 62, 63, 64, 50, 194, 195, 196, 197, 198, 199] (by decide +kernel) (by decide +kernel)
set_option maxRecDepth 20000 in
theorem gX5_readHarbour_X2_addHarbour : GoodIn wsX5_readHarbour (wsV RX5 208 RX2 yX2_addHarbour wsX2_addHarbour) := goodIn_app (goodIn_of _ (by decide +kernel)) ggX5_readHarbour_X2_addHarbour
set_option maxRecDepth 20000 in
theorem ggX5_readHarbour_X5_readRed : GoodIn wsX5_readHarbour wsX5_readRed := goodIn_r _ [116, 2, 1, 24, 25, 26, 10, 27, 23, 22, 28, 29, 30, 31, 6, 32, 33, 34, 18, 19, 20, 21, 3, 7, 8, 9, 11, 12, 13, 117, 118, 119, 120, 121, 122, 123, 124, 125, 126, 127, 128, 129, 130, 131, 132, 133, 134, 135, 136, 137, 138, 139, 140, 141, 142, 143, 144, 145, 146, 147, 148, 149, 150, 151, 152, 153, 154, 155, 156, 157, 158, 159, 160, 161, 162, 163, 164, 165, 166, 167, 168, 169, 170, 171, 172, 42, 173, 174, 175, 176, 177, 178, 179, 180, 181, 182, 183, 184, 185, 186, 187, 188, 189, 190, 191, 192, 193, 194, 195, 196, 197, 198, 199] (by decide +kernel) (by decide +kernel)
set_option maxRecDepth 20000 in
theorem gX5_readHarbour_X5_readRed : GoodIn wsX5_readHarbour (wsV RX5 212 RX5 yX5_readRed wsX5_readRed) := goodIn_app (goodIn_of _ (by decide +kernel)) ggX5_readHarbour_X5_readRed
theorem dX5_readHarbour_0 : decode cX5_readHarbour 0 = .ok (.aload_n 0, 1) := by decide +kernel
theorem dX5_readHarbour_1 : decode cX5_readHarbour 1 = .ok (.getfield 12, 3) := by decide +kernel
theorem dX5_readHarbour_4 : decode cX5_readHarbour 4 = .ok (.getfield 125, 3) := by decide +kernel
theorem dX5_readHarbour_7 : decode cX5_readHarbour 7 = .ok (.getfield 129, 3) := by decide +kernel
theorem dX5_readHarbour_10 : decode cX5_readHarbour 10 = .ok (.bipush 8, 2) := by decide +kernel
theorem dX5_readHarbour_12 : decode cX5_readHarbour 12 = .ok (.if_icmp .lt 13, 3) := by decide +kernel
theorem dX5_readHarbour_15 : decode cX5_readHarbour 15 = .ok (.aload_n 0, 1) := by decide +kernel
theorem dX5_readHarbour_16 : decode cX5_readHarbour 16 = .ok (.iconst 3, 1) := by decide +kernel
theorem dX5_readHarbour_17 : decode cX5_readHarbour 17 = .ok (.aload_n 0, 1) := by decide +kernel
theorem dX5_readHarbour_18 : decode cX5_readHarbour 18 = .ok (.getfield 85, 3) := by decide +kernel
theorem dX5_readHarbour_21 : decode cX5_readHarbour 21 = .ok (.invokevirtual 95, 3) := by decide +kernel
theorem dX5_readHarbour_24 : decode cX5_readHarbour 24 = .ok (.ireturn, 1) := by decide +kernel
theorem dX5_readHarbour_25 : decode cX5_readHarbour 25 = .ok (.aload_n 0, 1) := by decide +kernel
theorem dX5_readHarbour_26 : decode cX5_readHarbour 26 = .ok (.invokevirtual 193, 3) := by decide +kernel
theorem dX5_readHarbour_29 : decode cX5_readHarbour 29 = .ok (.ifCond .ne 5, 3) := by decide +kernel
theorem dX5_readHarbour_32 : decode cX5_readHarbour 32 = .ok (.iconst 0, 1) := by decide +kernel
theorem dX5_readHarbour_33 : decode cX5_readHarbour 33 = .ok (.ireturn, 1) := by decide +kernel
theorem dX5_readHarbour_34 : decode cX5_readHarbour 34 = .ok (.aload_n 0, 1) := by decide +kernel
theorem dX5_readHarbour_35 : decode cX5_readHarbour 35 = .ok (.invokevirtual 196, 3) := by decide +kernel
theorem dX5_readHarbour_38 : decode cX5_readHarbour 38 = .ok (.iconst (-1), 1) := by decide +kernel
theorem dX5_readHarbour_39 : decode cX5_readHarbour 39 = .ok (.if_icmp .eq 13, 3) := by decide +kernel
theorem dX5_readHarbour_42 : decode cX5_readHarbour 42 = .ok (.aload_n 0, 1) := by decide +kernel
theorem dX5_readHarbour_43 : decode cX5_readHarbour 43 = .ok (.iconst 3, 1) := by decide +kernel
theorem dX5_readHarbour_44 : decode cX5_readHarbour 44 = .ok (.aload_n 0, 1) := by decide +kernel
theorem dX5_readHarbour_45 : decode cX5_readHarbour 45 = .ok (.getfield 85, 3) := by decide +kernel
theorem dX5_readHarbour_48 : decode cX5_readHarbour 48 = .ok (.invokevirtual 95, 3) := by decide +kernel
theorem dX5_readHarbour_51 : decode cX5_readHarbour 51 = .ok (.ireturn, 1) := by decide +kernel
theorem dX5_readHarbour_52 : decode cX5_readHarbour 52 = .ok (.aload_n 0, 1) := by decide +kernel
theorem dX5_readHarbour_53 : decode cX5_readHarbour 53 = .ok (.getfield 85, 3) := by decide +kernel
theorem dX5_readHarbour_56 : decode cX5_readHarbour 56 = .ok (.istore_n 1, 1) := by decide +kernel
theorem dX5_readHarbour_57 : decode cX5_readHarbour 57 = .ok (.aload_n 0, 1) := by decide +kernel
theorem dX5_readHarbour_58 : decode cX5_readHarbour 58 = .ok (.getfield 92, 3) := by decide +kernel
theorem dX5_readHarbour_61 : decode cX5_readHarbour 61 = .ok (.istore_n 2, 1) := by decide +kernel
theorem dX5_readHarbour_62 : decode cX5_readHarbour 62 = .ok (.aload_n 0, 1) := by decide +kernel
theorem dX5_readHarbour_63 : decode cX5_readHarbour 63 = .ok (.invokevirtual 183, 3) := by decide +kernel
theorem dX5_readHarbour_66 : decode cX5_readHarbour 66 = .ok (.ifCond .ne 5, 3) := by decide +kernel
theorem dX5_readHarbour_69 : decode cX5_readHarbour 69 = .ok (.iconst 0, 1) := by decide +kernel
theorem dX5_readHarbour_70 : decode cX5_readHarbour 70 = .ok (.ireturn, 1) := by decide +kernel
theorem dX5_readHarbour_71 : decode cX5_readHarbour 71 = .ok (.aload_n 0, 1) := by decide +kernel
theorem dX5_readHarbour_72 : decode cX5_readHarbour 72 = .ok (.getfield 12, 3) := by decide +kernel
theorem dX5_readHarbour_75 : decode cX5_readHarbour 75 = .ok (.aload_n 0, 1) := by decide +kernel
theorem dX5_readHarbour_76 : decode cX5_readHarbour 76 = .ok (.getfield 155, 3) := by decide +kernel
theorem dX5_readHarbour_79 : decode cX5_readHarbour 79 = .ok (.invokevirtual 199, 3) := by decide +kernel
theorem dX5_readHarbour_82 : decode cX5_readHarbour 82 = .ok (.ifCond .eq 35, 3) := by decide +kernel
theorem dX5_readHarbour_85 : decode cX5_readHarbour 85 = .ok (.aload_n 0, 1) := by decide +kernel
theorem dX5_readHarbour_86 : decode cX5_readHarbour 86 = .ok (.getfield 12, 3) := by decide +kernel
theorem dX5_readHarbour_89 : decode cX5_readHarbour 89 = .ok (.aload_n 0, 1) := by decide +kernel
theorem dX5_readHarbour_90 : decode cX5_readHarbour 90 = .ok (.getfield 155, 3) := by decide +kernel
theorem dX5_readHarbour_93 : decode cX5_readHarbour 93 = .ok (.invokevirtual 202, 3) := by decide +kernel
theorem dX5_readHarbour_96 : decode cX5_readHarbour 96 = .ok (.ifCond .ne 21, 3) := by decide +kernel
theorem dX5_readHarbour_99 : decode cX5_readHarbour 99 = .ok (.aload_n 0, 1) := by decide +kernel
theorem dX5_readHarbour_100 : decode cX5_readHarbour 100 = .ok (.getfield 12, 3) := by decide +kernel
theorem dX5_readHarbour_103 : decode cX5_readHarbour 103 = .ok (.getfield 140, 3) := by decide +kernel
theorem dX5_readHarbour_106 : decode cX5_readHarbour 106 = .ok (.aload_n 0, 1) := by decide +kernel
theorem dX5_readHarbour_107 : decode cX5_readHarbour 107 = .ok (.getfield 155, 3) := by decide +kernel
theorem dX5_readHarbour_110 : decode cX5_readHarbour 110 = .ok (.iconst (-1), 1) := by decide +kernel
theorem dX5_readHarbour_111 : decode cX5_readHarbour 111 = .ok (.invokevirtual 205, 3) := by decide +kernel
theorem dX5_readHarbour_114 : decode cX5_readHarbour 114 = .ok (.ifCond .ne 13, 3) := by decide +kernel
theorem dX5_readHarbour_117 : decode cX5_readHarbour 117 = .ok (.aload_n 0, 1) := by decide +kernel
theorem dX5_readHarbour_118 : decode cX5_readHarbour 118 = .ok (.iconst 3, 1) := by decide +kernel
theorem dX5_readHarbour_119 : decode cX5_readHarbour 119 = .ok (.aload_n 0, 1) := by decide +kernel
theorem dX5_readHarbour_120 : decode cX5_readHarbour 120 = .ok (.getfield 107, 3) := by decide +kernel
theorem dX5_readHarbour_123 : decode cX5_readHarbour 123 = .ok (.invokevirtual 95, 3) := by decide +kernel
theorem dX5_readHarbour_126 : decode cX5_readHarbour 126 = .ok (.ireturn, 1) := by decide +kernel
theorem dX5_readHarbour_127 : decode cX5_readHarbour 127 = .ok (.aload_n 0, 1) := by decide +kernel
theorem dX5_readHarbour_128 : decode cX5_readHarbour 128 = .ok (.getfield 12, 3) := by decide +kernel
theorem dX5_readHarbour_131 : decode cX5_readHarbour 131 = .ok (.getfield 125, 3) := by decide +kernel
theorem dX5_readHarbour_134 : decode cX5_readHarbour 134 = .ok (.aload_n 0, 1) := by decide +kernel
theorem dX5_readHarbour_135 : decode cX5_readHarbour 135 = .ok (.getfield 155, 3) := by decide +kernel
theorem dX5_readHarbour_138 : decode cX5_readHarbour 138 = .ok (.aload_n 0, 1) := by decide +kernel
theorem dX5_readHarbour_139 : decode cX5_readHarbour 139 = .ok (.getfield 25, 3) := by decide +kernel
theorem dX5_readHarbour_142 : decode cX5_readHarbour 142 = .ok (.iload_n 1, 1) := by decide +kernel
theorem dX5_readHarbour_143 : decode cX5_readHarbour 143 = .ok (.iload_n 2, 1) := by decide +kernel
theorem dX5_readHarbour_144 : decode cX5_readHarbour 144 = .ok (.invokevirtual 208, 3) := by decide +kernel
theorem dX5_readHarbour_147 : decode cX5_readHarbour 147 = .ok (.aload_n 0, 1) := by decide +kernel
theorem dX5_readHarbour_148 : decode cX5_readHarbour 148 = .ok (.aload_n 0, 1) := by decide +kernel
theorem dX5_readHarbour_149 : decode cX5_readHarbour 149 = .ok (.getfield 12, 3) := by decide +kernel
theorem dX5_readHarbour_152 : decode cX5_readHarbour 152 = .ok (.getfield 125, 3) := by decide +kernel
theorem dX5_readHarbour_155 : decode cX5_readHarbour 155 = .ok (.getfield 129, 3) := by decide +kernel
theorem dX5_readHarbour_158 : decode cX5_readHarbour 158 = .ok (.iconst 1, 1) := by decide +kernel
theorem dX5_readHarbour_159 : decode cX5_readHarbour 159 = .ok (.isub, 1) := by decide +kernel
theorem dX5_readHarbour_160 : decode cX5_readHarbour 160 = .ok (.invokevirtual 212, 3) := by decide +kernel
theorem dX5_readHarbour_163 : decode cX5_readHarbour 163 = .ok (.ireturn, 1) := by decide +kernel
set_option maxRecDepth 20000 in
theorem ggX5_readRed_X5_nextSign : GoodIn wsX5_readRed wsX5_nextSign := goodIn_r _ [7, 8, 9, 10, 11, 12, 6, 13, 14, 88, 89, 90, 91, 92, 93, 94, 95, 96, 97, 98, 99, 100, 101] (by decide +kernel) (by decide +kernel)
set_option maxRecDepth 20000 in
theorem gX5_readRed_X5_nextSign : GoodIn wsX5_readRed (wsV RX5 53 RX5 yX5_nextSign wsX5_nextSign) := goodIn_app (goodIn_of _ (by decide +kernel)) ggX5_readRed_X5_nextSign
set_option maxRecDepth 20000 in
theorem ggX5_readRed_X5_isLetter : GoodIn wsX5_readRed wsX5_isLetter := goodIn_r _ [17] (by decide +kernel) (by decide +kernel)
set_option maxRecDepth 20000 in
theorem gX5_readRed_X5_isLetter : GoodIn wsX5_readRed (va_wsS RX5 88 yX5_isLetter wsX5_isLetter) := goodIn_app (goodIn_of _ (by decide +kernel)) ggX5_readRed_X5_isLetter
set_option maxRecDepth 20000 in
theorem ggX5_readRed_X5_takeWord : GoodIn wsX5_readRed wsX5_takeWord := goodIn_r _ [21, 9, 1, 8, 22, 3, 4, 5, 6, 7, 10, 11, 12, 13, 14, 15, 16, 17, 23, 24, 25, 26, 27, 28, 88, 89, 90, 91, 92, 93, 94, 95, 96, 97, 98, 99, 100, 101] (by decide +kernel) (by decide +kernel)
set_option maxRecDepth 20000 in
theorem gX5_readRed_X5_takeWord : GoodIn wsX5_readRed (wsV RX5 122 RX5 yX5_takeWord wsX5_takeWord) := goodIn_app (goodIn_of _ (by decide +kernel)) ggX5_readRed_X5_takeWord
set_option maxRecDepth 20000 in
theorem ggX5_readRed_X5_wordIs : GoodIn wsX5_readRed wsX5_wordIs := goodIn_r _ [32, 22, 1, 33, 34, 35, 36, 37, 38, 39, 40, 41, 42, 43, 44, 10, 11, 12, 6, 13, 8, 14, 45, 46, 47, 48, 49, 50, 51, 52, 53, 54, 55, 56, 57, 58, 59, 60, 61, 62, 63, 64, 65, 66, 67, 68, 69, 70, 71, 72, 73, 74, 75, 76, 77, 78, 79, 80, 81, 88, 89, 90, 91, 92, 93, 94, 95, 96, 97, 98, 99, 100, 101] (by decide +kernel) (by decide +kernel)
set_option maxRecDepth 20000 in
theorem gX5_readRed_X5_wordIs : GoodIn wsX5_readRed (wsV RX5 160 RX5 yX5_wordIs wsX5_wordIs) := goodIn_app (goodIn_of _ (by decide +kernel)) ggX5_readRed_X5_wordIs
set_option maxRecDepth 20000 in
theorem ggX5_readRed_X5_fail : GoodIn wsX5_readRed wsX5_fail := goodIn_r _ [26, 27, 28, 88, 89, 90, 91, 92, 93, 94, 95, 96, 97, 98, 99, 100, 101] (by decide +kernel) (by decide +kernel)
set_option maxRecDepth 20000 in
theorem gX5_readRed_X5_fail : GoodIn wsX5_readRed (wsV RX5 95 RX5 yX5_fail wsX5_fail) := goodIn_app (goodIn_of _ (by decide +kernel)) ggX5_readRed_X5_fail
set_option maxRecDepth 20000 in
theorem ggX5_readRed_X2_redsIf : GoodIn wsX5_readRed wsX2_redsIf := goodIn_r _ [86, 87, 107, 108, 109, 110, 111, 112] (by decide +kernel) (by decide +kernel)
set_option maxRecDepth 20000 in
theorem gX5_readRed_X2_redsIf : GoodIn wsX5_readRed (wsV RX5 217 RX2 yX2_redsIf wsX2_redsIf) := goodIn_app (goodIn_of _ (by decide +kernel)) ggX5_readRed_X2_redsIf
theorem dX5_readRed_0 : decode cX5_readRed 0 = .ok (.aload_n 0, 1) := by decide +kernel
theorem dX5_readRed_1 : decode cX5_readRed 1 = .ok (.invokevirtual 53, 3) := by decide +kernel
theorem dX5_readRed_4 : decode cX5_readRed 4 = .ok (.invokestatic 88, 3) := by decide +kernel
theorem dX5_readRed_7 : decode cX5_readRed 7 = .ok (.ifCond .ne 5, 3) := by decide +kernel
theorem dX5_readRed_10 : decode cX5_readRed 10 = .ok (.iconst 1, 1) := by decide +kernel
theorem dX5_readRed_11 : decode cX5_readRed 11 = .ok (.ireturn, 1) := by decide +kernel
theorem dX5_readRed_12 : decode cX5_readRed 12 = .ok (.aload_n 0, 1) := by decide +kernel
theorem dX5_readRed_13 : decode cX5_readRed 13 = .ok (.invokevirtual 122, 3) := by decide +kernel
theorem dX5_readRed_16 : decode cX5_readRed 16 = .ok (.pop, 1) := by decide +kernel
theorem dX5_readRed_17 : decode cX5_readRed 17 = .ok (.aload_n 0, 1) := by decide +kernel
theorem dX5_readRed_18 : decode cX5_readRed 18 = .ok (.ldc 215, 2) := by decide +kernel
theorem dX5_readRed_20 : decode cX5_readRed 20 = .ok (.invokevirtual 160, 3) := by decide +kernel
theorem dX5_readRed_23 : decode cX5_readRed 23 = .ok (.ifCond .ne 13, 3) := by decide +kernel
theorem dX5_readRed_26 : decode cX5_readRed 26 = .ok (.aload_n 0, 1) := by decide +kernel
theorem dX5_readRed_27 : decode cX5_readRed 27 = .ok (.iconst 1, 1) := by decide +kernel
theorem dX5_readRed_28 : decode cX5_readRed 28 = .ok (.aload_n 0, 1) := by decide +kernel
theorem dX5_readRed_29 : decode cX5_readRed 29 = .ok (.getfield 85, 3) := by decide +kernel
theorem dX5_readRed_32 : decode cX5_readRed 32 = .ok (.invokevirtual 95, 3) := by decide +kernel
theorem dX5_readRed_35 : decode cX5_readRed 35 = .ok (.ireturn, 1) := by decide +kernel
theorem dX5_readRed_36 : decode cX5_readRed 36 = .ok (.aload_n 0, 1) := by decide +kernel
theorem dX5_readRed_37 : decode cX5_readRed 37 = .ok (.getfield 12, 3) := by decide +kernel
theorem dX5_readRed_40 : decode cX5_readRed 40 = .ok (.getfield 125, 3) := by decide +kernel
theorem dX5_readRed_43 : decode cX5_readRed 43 = .ok (.aload_n 0, 1) := by decide +kernel
theorem dX5_readRed_44 : decode cX5_readRed 44 = .ok (.getfield 12, 3) := by decide +kernel
theorem dX5_readRed_47 : decode cX5_readRed 47 = .ok (.getfield 125, 3) := by decide +kernel
theorem dX5_readRed_50 : decode cX5_readRed 50 = .ok (.iload_n 1, 1) := by decide +kernel
theorem dX5_readRed_51 : decode cX5_readRed 51 = .ok (.iconst 1, 1) := by decide +kernel
theorem dX5_readRed_52 : decode cX5_readRed 52 = .ok (.invokevirtual 217, 3) := by decide +kernel
theorem dX5_readRed_55 : decode cX5_readRed 55 = .ok (.putfield 221, 3) := by decide +kernel
theorem dX5_readRed_58 : decode cX5_readRed 58 = .ok (.iconst 1, 1) := by decide +kernel
theorem dX5_readRed_59 : decode cX5_readRed 59 = .ok (.ireturn, 1) := by decide +kernel
set_option maxRecDepth 20000 in
theorem ggX5_readRiver_X5_fail : GoodIn wsX5_readRiver wsX5_fail := goodIn_r _ [10, 11, 12, 154, 155, 156, 157, 158, 159, 160, 161, 162, 163, 164, 165, 166, 167] (by decide +kernel) (by decide +kernel)
set_option maxRecDepth 20000 in
theorem gX5_readRiver_X5_fail : GoodIn wsX5_readRiver (wsV RX5 95 RX5 yX5_fail wsX5_fail) := goodIn_app (goodIn_of _ (by decide +kernel)) ggX5_readRiver_X5_fail
set_option maxRecDepth 20000 in
theorem ggX5_readRiver_X5_takeCell : GoodIn wsX5_readRiver wsX5_takeCell := goodIn_r _ [16, 1, 17, 4, 18, 19, 20, 9, 21, 22, 5, 23, 24, 25, 26, 27, 28, 29, 30, 31, 32, 33, 34, 35, 36, 37, 38, 39, 6, 7, 8, 10, 11, 12, 154, 155, 156, 157, 158, 159, 160, 161, 162, 163, 164, 165, 166, 167, 168, 169, 170, 171, 172, 173, 174, 175, 176, 177, 178] (by decide +kernel) (by decide +kernel)
set_option maxRecDepth 20000 in
theorem gX5_readRiver_X5_takeCell : GoodIn wsX5_readRiver (wsV RX5 183 RX5 yX5_takeCell wsX5_takeCell) := goodIn_app (goodIn_of _ (by decide +kernel)) ggX5_readRiver_X5_takeCell
set_option maxRecDepth 20000 in
theorem ggX5_readRiver_X7_survey : GoodIn wsX5_readRiver wsX7_survey := goodIn_r _ [44, 45, 25, 26, 27, 46, 47, 48, 49, 50, 51, 52, 53, 54, 55, 56, 57, 58, 59, 60, 61, 62, 63, 64, 65, 66, 67, 68, 69, 70, 71, 72, 73, 74, 75, 76, 77, 78, 79, 80, 81, 82, 83, 84, 85, 86, 87, 88, 89, 90, 91, 92, 93, 94, 95, 96, 43, 97, 98, 99, 100, 101, 102, 168, 169, 170, 171, 172, 179, 180, 181, 182, 173, 174, 175, 176, 177, 178, 183, 184, 185, 186, 187, 188] (by decide +kernel) (by decide +kernel)
set_option maxRecDepth 20000 in
theorem gX5_readRiver_X7_survey : GoodIn wsX5_readRiver (wsV RX5 224 RX7 yX7_survey wsX7_survey) := goodIn_app (goodIn_of _ (by decide +kernel)) ggX5_readRiver_X7_survey
set_option maxRecDepth 20000 in
theorem ggX5_readRiver_X7_trace : GoodIn wsX5_readRiver wsX7_trace := goodIn_r _ [106, 107, 108, 47, 46, 99, 100, 101, 43, 102, 109, 110, 111, 112, 98, 89, 90, 51, 91, 53, 54, 179, 180, 181, 182, 173, 174, 175, 176, 177, 178] (by decide +kernel) (by decide +kernel)
set_option maxRecDepth 20000 in
theorem gX5_readRiver_X7_trace : GoodIn wsX5_readRiver (wsV RX5 228 RX7 yX7_trace wsX7_trace) := goodIn_app (goodIn_of _ (by decide +kernel)) ggX5_readRiver_X7_trace
set_option maxRecDepth 20000 in
theorem ggX5_readRiver_X7_namesOnWay : GoodIn wsX5_readRiver wsX7_namesOnWay := goodIn_r _ [116, 107, 117, 118, 119, 43, 120, 108, 79, 80, 81, 58, 82, 83, 179, 180, 181, 182, 168, 169, 170, 171, 172] (by decide +kernel) (by decide +kernel)
set_option maxRecDepth 20000 in
theorem gX5_readRiver_X7_namesOnWay : GoodIn wsX5_readRiver (wsV RX5 232 RX7 yX7_namesOnWay wsX7_namesOnWay) := goodIn_app (goodIn_of _ (by decide +kernel)) ggX5_readRiver_X7_namesOnWay
set_option maxRecDepth 20000 in
theorem ggX5_readRiver_X6_takeNames : GoodIn wsX5_readRiver wsX6_takeNames := goodIn_r _ [124, 61, 125, 126, 127, 58, 128, 60, 83, 129, 130, 131, 75, 132, 77, 78, 133, 134, 135, 136, 137, 138, 139, 140, 141, 142, 143, 89, 90, 51, 91, 53, 54, 144, 145, 146, 147, 168, 169, 170, 171, 172, 183, 184, 185, 186, 187, 188, 173, 174, 175, 176, 177, 178] (by decide +kernel) (by decide +kernel)
set_option maxRecDepth 20000 in
theorem gX5_readRiver_X6_takeNames : GoodIn wsX5_readRiver (wsV RX5 236 RX6 yX6_takeNames wsX6_takeNames) := goodIn_app (goodIn_of _ (by decide +kernel)) ggX5_readRiver_X6_takeNames
set_option maxRecDepth 20000 in
theorem ggX5_readRiver_X1_layRiver : GoodIn wsX5_readRiver wsX1_layRiver := goodIn_r _ [151, 71, 152, 153, 173, 174, 175, 176, 177, 178] (by decide +kernel) (by decide +kernel)
set_option maxRecDepth 20000 in
theorem gX5_readRiver_X1_layRiver : GoodIn wsX5_readRiver (wsV RX5 244 RX1 yX1_layRiver wsX1_layRiver) := goodIn_app (goodIn_of _ (by decide +kernel)) ggX5_readRiver_X1_layRiver
theorem dX5_readRiver_0 : decode cX5_readRiver 0 = .ok (.aload_n 0, 1) := by decide +kernel
theorem dX5_readRiver_1 : decode cX5_readRiver 1 = .ok (.getfield 12, 3) := by decide +kernel
theorem dX5_readRiver_4 : decode cX5_readRiver 4 = .ok (.getfield 140, 3) := by decide +kernel
theorem dX5_readRiver_7 : decode cX5_readRiver 7 = .ok (.getfield 180, 3) := by decide +kernel
theorem dX5_readRiver_10 : decode cX5_readRiver 10 = .ok (.bipush 8, 2) := by decide +kernel
theorem dX5_readRiver_12 : decode cX5_readRiver 12 = .ok (.if_icmp .lt 13, 3) := by decide +kernel
theorem dX5_readRiver_15 : decode cX5_readRiver 15 = .ok (.aload_n 0, 1) := by decide +kernel
theorem dX5_readRiver_16 : decode cX5_readRiver 16 = .ok (.iconst 3, 1) := by decide +kernel
theorem dX5_readRiver_17 : decode cX5_readRiver 17 = .ok (.aload_n 0, 1) := by decide +kernel
theorem dX5_readRiver_18 : decode cX5_readRiver 18 = .ok (.getfield 85, 3) := by decide +kernel
theorem dX5_readRiver_21 : decode cX5_readRiver 21 = .ok (.invokevirtual 95, 3) := by decide +kernel
theorem dX5_readRiver_24 : decode cX5_readRiver 24 = .ok (.ireturn, 1) := by decide +kernel
theorem dX5_readRiver_25 : decode cX5_readRiver 25 = .ok (.aload_n 0, 1) := by decide +kernel
theorem dX5_readRiver_26 : decode cX5_readRiver 26 = .ok (.invokevirtual 183, 3) := by decide +kernel
theorem dX5_readRiver_29 : decode cX5_readRiver 29 = .ok (.ifCond .ne 5, 3) := by decide +kernel
theorem dX5_readRiver_32 : decode cX5_readRiver 32 = .ok (.iconst 0, 1) := by decide +kernel
theorem dX5_readRiver_33 : decode cX5_readRiver 33 = .ok (.ireturn, 1) := by decide +kernel
theorem dX5_readRiver_34 : decode cX5_readRiver 34 = .ok (.aload_n 0, 1) := by decide +kernel
theorem dX5_readRiver_35 : decode cX5_readRiver 35 = .ok (.getfield 21, 3) := by decide +kernel
theorem dX5_readRiver_38 : decode cX5_readRiver 38 = .ok (.aload_n 0, 1) := by decide +kernel
theorem dX5_readRiver_39 : decode cX5_readRiver 39 = .ok (.getfield 12, 3) := by decide +kernel
theorem dX5_readRiver_42 : decode cX5_readRiver 42 = .ok (.invokevirtual 224, 3) := by decide +kernel
theorem dX5_readRiver_45 : decode cX5_readRiver 45 = .ok (.aload_n 0, 1) := by decide +kernel
theorem dX5_readRiver_46 : decode cX5_readRiver 46 = .ok (.getfield 21, 3) := by decide +kernel
theorem dX5_readRiver_49 : decode cX5_readRiver 49 = .ok (.aload_n 0, 1) := by decide +kernel
theorem dX5_readRiver_50 : decode cX5_readRiver 50 = .ok (.getfield 12, 3) := by decide +kernel
theorem dX5_readRiver_53 : decode cX5_readRiver 53 = .ok (.getfield 140, 3) := by decide +kernel
theorem dX5_readRiver_56 : decode cX5_readRiver 56 = .ok (.aload_n 0, 1) := by decide +kernel
theorem dX5_readRiver_57 : decode cX5_readRiver 57 = .ok (.getfield 155, 3) := by decide +kernel
theorem dX5_readRiver_60 : decode cX5_readRiver 60 = .ok (.invokevirtual 228, 3) := by decide +kernel
theorem dX5_readRiver_63 : decode cX5_readRiver 63 = .ok (.ifCond .ne 13, 3) := by decide +kernel
theorem dX5_readRiver_66 : decode cX5_readRiver 66 = .ok (.aload_n 0, 1) := by decide +kernel
theorem dX5_readRiver_67 : decode cX5_readRiver 67 = .ok (.iconst 3, 1) := by decide +kernel
theorem dX5_readRiver_68 : decode cX5_readRiver 68 = .ok (.aload_n 0, 1) := by decide +kernel
theorem dX5_readRiver_69 : decode cX5_readRiver 69 = .ok (.getfield 107, 3) := by decide +kernel
theorem dX5_readRiver_72 : decode cX5_readRiver 72 = .ok (.invokevirtual 95, 3) := by decide +kernel
theorem dX5_readRiver_75 : decode cX5_readRiver 75 = .ok (.ireturn, 1) := by decide +kernel
theorem dX5_readRiver_76 : decode cX5_readRiver 76 = .ok (.aload_n 0, 1) := by decide +kernel
theorem dX5_readRiver_77 : decode cX5_readRiver 77 = .ok (.getfield 12, 3) := by decide +kernel
theorem dX5_readRiver_80 : decode cX5_readRiver 80 = .ok (.aload_n 0, 1) := by decide +kernel
theorem dX5_readRiver_81 : decode cX5_readRiver 81 = .ok (.getfield 21, 3) := by decide +kernel
theorem dX5_readRiver_84 : decode cX5_readRiver 84 = .ok (.aload_n 0, 1) := by decide +kernel
theorem dX5_readRiver_85 : decode cX5_readRiver 85 = .ok (.getfield 12, 3) := by decide +kernel
theorem dX5_readRiver_88 : decode cX5_readRiver 88 = .ok (.invokevirtual 232, 3) := by decide +kernel
theorem dX5_readRiver_91 : decode cX5_readRiver 91 = .ok (.invokevirtual 236, 3) := by decide +kernel
theorem dX5_readRiver_94 : decode cX5_readRiver 94 = .ok (.aload_n 0, 1) := by decide +kernel
theorem dX5_readRiver_95 : decode cX5_readRiver 95 = .ok (.getfield 12, 3) := by decide +kernel
theorem dX5_readRiver_98 : decode cX5_readRiver 98 = .ok (.getfield 140, 3) := by decide +kernel
theorem dX5_readRiver_101 : decode cX5_readRiver 101 = .ok (.aload_n 0, 1) := by decide +kernel
theorem dX5_readRiver_102 : decode cX5_readRiver 102 = .ok (.getfield 21, 3) := by decide +kernel
theorem dX5_readRiver_105 : decode cX5_readRiver 105 = .ok (.getfield 240, 3) := by decide +kernel
theorem dX5_readRiver_108 : decode cX5_readRiver 108 = .ok (.aload_n 0, 1) := by decide +kernel
theorem dX5_readRiver_109 : decode cX5_readRiver 109 = .ok (.getfield 21, 3) := by decide +kernel
theorem dX5_readRiver_112 : decode cX5_readRiver 112 = .ok (.getfield 243, 3) := by decide +kernel
theorem dX5_readRiver_115 : decode cX5_readRiver 115 = .ok (.invokevirtual 244, 3) := by decide +kernel
theorem dX5_readRiver_118 : decode cX5_readRiver 118 = .ok (.iconst 1, 1) := by decide +kernel
theorem dX5_readRiver_119 : decode cX5_readRiver 119 = .ok (.ireturn, 1) := by decide +kernel
set_option maxRecDepth 20000 in
theorem ggX5_directionWord_X5_wordIs : GoodIn wsX5_directionWord wsX5_wordIs := goodIn_r _ [5, 6, 7, 8, 9, 10, 11, 12, 13, 14, 15, 16, 17, 18, 19, 20, 21, 22, 4, 23, 24, 25, 26, 27, 28, 29, 30, 31, 32, 33, 34, 35, 36, 37, 38, 39, 40, 41, 42, 43, 44, 45, 46, 47, 48, 49, 50, 51, 52, 53, 54, 55, 56, 57, 58, 59, 60, 61, 62, 63, 64, 65, 66, 67, 68, 69, 70, 71, 72, 73, 74, 75, 76] (by decide +kernel) (by decide +kernel)
set_option maxRecDepth 20000 in
theorem gX5_directionWord_X5_wordIs : GoodIn wsX5_directionWord (wsV RX5 160 RX5 yX5_wordIs wsX5_wordIs) := goodIn_app (goodIn_of _ (by decide +kernel)) ggX5_directionWord_X5_wordIs
theorem dX5_directionWord_0 : decode cX5_directionWord 0 = .ok (.aload_n 0, 1) := by decide +kernel
theorem dX5_directionWord_1 : decode cX5_directionWord 1 = .ok (.ldc 248, 2) := by decide +kernel
theorem dX5_directionWord_3 : decode cX5_directionWord 3 = .ok (.invokevirtual 160, 3) := by decide +kernel
theorem dX5_directionWord_6 : decode cX5_directionWord 6 = .ok (.ifCond .eq 7, 3) := by decide +kernel
theorem dX5_directionWord_9 : decode cX5_directionWord 9 = .ok (.iconst 0, 1) := by decide +kernel
theorem dX5_directionWord_10 : decode cX5_directionWord 10 = .ok (.goto 43, 3) := by decide +kernel
theorem dX5_directionWord_13 : decode cX5_directionWord 13 = .ok (.aload_n 0, 1) := by decide +kernel
theorem dX5_directionWord_14 : decode cX5_directionWord 14 = .ok (.ldc 250, 2) := by decide +kernel
theorem dX5_directionWord_16 : decode cX5_directionWord 16 = .ok (.invokevirtual 160, 3) := by decide +kernel
theorem dX5_directionWord_19 : decode cX5_directionWord 19 = .ok (.ifCond .eq 7, 3) := by decide +kernel
theorem dX5_directionWord_22 : decode cX5_directionWord 22 = .ok (.iconst 1, 1) := by decide +kernel
theorem dX5_directionWord_23 : decode cX5_directionWord 23 = .ok (.goto 30, 3) := by decide +kernel
theorem dX5_directionWord_26 : decode cX5_directionWord 26 = .ok (.aload_n 0, 1) := by decide +kernel
theorem dX5_directionWord_27 : decode cX5_directionWord 27 = .ok (.ldc 252, 2) := by decide +kernel
theorem dX5_directionWord_29 : decode cX5_directionWord 29 = .ok (.invokevirtual 160, 3) := by decide +kernel
theorem dX5_directionWord_32 : decode cX5_directionWord 32 = .ok (.ifCond .eq 7, 3) := by decide +kernel
theorem dX5_directionWord_35 : decode cX5_directionWord 35 = .ok (.iconst 2, 1) := by decide +kernel
theorem dX5_directionWord_36 : decode cX5_directionWord 36 = .ok (.goto 17, 3) := by decide +kernel
theorem dX5_directionWord_39 : decode cX5_directionWord 39 = .ok (.aload_n 0, 1) := by decide +kernel
theorem dX5_directionWord_40 : decode cX5_directionWord 40 = .ok (.ldc 254, 2) := by decide +kernel
theorem dX5_directionWord_42 : decode cX5_directionWord 42 = .ok (.invokevirtual 160, 3) := by decide +kernel
theorem dX5_directionWord_45 : decode cX5_directionWord 45 = .ok (.ifCond .eq 7, 3) := by decide +kernel
theorem dX5_directionWord_48 : decode cX5_directionWord 48 = .ok (.iconst 3, 1) := by decide +kernel
theorem dX5_directionWord_49 : decode cX5_directionWord 49 = .ok (.goto 4, 3) := by decide +kernel
theorem dX5_directionWord_52 : decode cX5_directionWord 52 = .ok (.iconst (-1), 1) := by decide +kernel
theorem dX5_directionWord_53 : decode cX5_directionWord 53 = .ok (.ireturn, 1) := by decide +kernel
set_option maxRecDepth 20000 in
theorem ggX5_readPlace_X5_takeName : GoodIn wsX5_readPlace wsX5_takeName := goodIn_r _ [7, 8, 1, 9, 10, 11, 6, 12, 13, 14, 15, 16, 17, 18, 19, 20, 21, 22, 23, 24, 25, 26, 27, 28, 29, 30, 31, 32, 181, 182, 183, 184, 185, 186, 187, 188, 189, 190, 191, 192, 193, 194] (by decide +kernel) (by decide +kernel)
set_option maxRecDepth 20000 in
theorem gX5_readPlace_X5_takeName : GoodIn wsX5_readPlace (wsV RX5 193 RX5 yX5_takeName wsX5_takeName) := goodIn_app (goodIn_of _ (by decide +kernel)) ggX5_readPlace_X5_takeName
set_option maxRecDepth 20000 in
theorem ggX5_readPlace_X5_namedHarbour : GoodIn wsX5_readPlace wsX5_namedHarbour := goodIn_r _ [36, 2, 8, 1, 37, 38, 39, 40, 41, 42, 43, 44, 45, 46, 47, 48, 49, 19, 20, 21, 6, 22, 14, 23, 181, 182, 183, 184, 185, 186, 187, 188, 189, 190, 191, 192, 193, 194, 195, 196, 197, 198, 199, 200, 201, 202, 203, 204, 205] (by decide +kernel) (by decide +kernel)
set_option maxRecDepth 20000 in
theorem gX5_readPlace_X5_namedHarbour : GoodIn wsX5_readPlace (wsV RX5 196 RX5 yX5_namedHarbour wsX5_namedHarbour) := goodIn_app (goodIn_of _ (by decide +kernel)) ggX5_readPlace_X5_namedHarbour
set_option maxRecDepth 20000 in
theorem ggX5_readPlace_X5_fail : GoodIn wsX5_readPlace wsX5_fail := goodIn_r _ [30, 31, 32, 181, 182, 183, 184, 185, 186, 187, 188, 189, 190, 191, 192, 193, 194] (by decide +kernel) (by decide +kernel)
set_option maxRecDepth 20000 in
theorem gX5_readPlace_X5_fail : GoodIn wsX5_readPlace (wsV RX5 95 RX5 yX5_fail wsX5_fail) := goodIn_app (goodIn_of _ (by decide +kernel)) ggX5_readPlace_X5_fail
set_option maxRecDepth 20000 in
theorem ggX5_readPlace_X5_takeWord : GoodIn wsX5_readPlace wsX5_takeWord := goodIn_r _ [12, 13, 1, 14, 8, 15, 16, 17, 6, 18, 19, 20, 21, 22, 23, 24, 25, 26, 27, 28, 29, 30, 31, 32, 181, 182, 183, 184, 185, 186, 187, 188, 189, 190, 191, 192, 193, 194] (by decide +kernel) (by decide +kernel)
set_option maxRecDepth 20000 in
theorem gX5_readPlace_X5_takeWord : GoodIn wsX5_readPlace (wsV RX5 122 RX5 yX5_takeWord wsX5_takeWord) := goodIn_app (goodIn_of _ (by decide +kernel)) ggX5_readPlace_X5_takeWord
set_option maxRecDepth 20000 in
theorem ggX5_readPlace_X5_directionWord : GoodIn wsX5_readPlace wsX5_directionWord := goodIn_r _ [53, 54, 55, 56, 6, 57, 8, 1, 58, 59, 60, 61, 62, 63, 64, 65, 66, 67, 68, 69, 19, 20, 21, 22, 14, 23, 70, 71, 72, 73, 74, 75, 76, 77, 78, 79, 80, 81, 82, 83, 84, 85, 86, 87, 88, 89, 90, 91, 92, 93, 94, 95, 96, 97, 98, 99, 100, 101, 102, 103, 104, 105, 106, 181, 182, 183, 184, 185, 186, 187, 188, 189, 190, 191, 192, 193, 194] (by decide +kernel) (by decide +kernel)
set_option maxRecDepth 20000 in
theorem gX5_readPlace_X5_directionWord : GoodIn wsX5_readPlace (wsV RX5 256 RX5 yX5_directionWord wsX5_directionWord) := goodIn_app (goodIn_of _ (by decide +kernel)) ggX5_readPlace_X5_directionWord
set_option maxRecDepth 20000 in
theorem ggX5_readPlace_X6_reasonAgainst : GoodIn wsX5_readPlace wsX6_reasonAgainst := goodIn_r _ [111, 112, 113, 114, 110, 115, 116, 117, 118, 119, 120, 40, 121, 42, 122, 123, 124, 125, 126, 127, 128, 129, 130, 131, 132, 133, 134, 135, 38, 39, 41, 43, 136, 137, 138, 139, 140, 141, 142, 143, 144, 145, 146, 147, 148, 149, 150, 151, 152, 153, 154, 155, 156, 157, 158, 159, 160, 161, 162, 163, 45, 46, 47, 48, 49, 195, 196, 197, 198, 199, 200, 201, 202, 203, 204, 205, 206, 207, 208, 209, 210, 211] (by decide +kernel) (by decide +kernel)
set_option maxRecDepth 20000 in
theorem gX5_readPlace_X6_reasonAgainst : GoodIn wsX5_readPlace (wsV RX5 259 RX6 yX6_reasonAgainst wsX6_reasonAgainst) := goodIn_app (goodIn_of _ (by decide +kernel)) ggX5_readPlace_X6_reasonAgainst
set_option maxRecDepth 20000 in
theorem ggX5_readPlace_X6_putName : GoodIn wsX5_readPlace wsX6_putName := goodIn_r _ [167, 116, 117, 157, 162, 168, 169, 170, 110, 171, 118, 119, 120, 40, 121, 42, 122, 172, 173, 174, 175, 176, 135, 38, 39, 41, 43, 123, 124, 125, 126, 127, 128, 129, 177, 178, 179, 180, 163, 45, 46, 47, 48, 49, 195, 196, 197, 198, 199, 200, 201, 202, 203, 204, 205, 206, 207, 208, 209, 210, 211] (by decide +kernel) (by decide +kernel)
set_option maxRecDepth 20000 in
theorem gX5_readPlace_X6_putName : GoodIn wsX5_readPlace (wsV RX5 262 RX6 yX6_putName wsX6_putName) := goodIn_app (goodIn_of _ (by decide +kernel)) ggX5_readPlace_X6_putName
theorem dX5_readPlace_0 : decode cX5_readPlace 0 = .ok (.aload_n 0, 1) := by decide +kernel
theorem dX5_readPlace_1 : decode cX5_readPlace 1 = .ok (.invokevirtual 193, 3) := by decide +kernel
theorem dX5_readPlace_4 : decode cX5_readPlace 4 = .ok (.ifCond .ne 5, 3) := by decide +kernel
theorem dX5_readPlace_7 : decode cX5_readPlace 7 = .ok (.iconst 0, 1) := by decide +kernel
theorem dX5_readPlace_8 : decode cX5_readPlace 8 = .ok (.ireturn, 1) := by decide +kernel
theorem dX5_readPlace_9 : decode cX5_readPlace 9 = .ok (.aload_n 0, 1) := by decide +kernel
theorem dX5_readPlace_10 : decode cX5_readPlace 10 = .ok (.invokevirtual 196, 3) := by decide +kernel
theorem dX5_readPlace_13 : decode cX5_readPlace 13 = .ok (.istore_n 1, 1) := by decide +kernel
theorem dX5_readPlace_14 : decode cX5_readPlace 14 = .ok (.iload_n 1, 1) := by decide +kernel
theorem dX5_readPlace_15 : decode cX5_readPlace 15 = .ok (.iconst (-1), 1) := by decide +kernel
theorem dX5_readPlace_16 : decode cX5_readPlace 16 = .ok (.if_icmp .ne 13, 3) := by decide +kernel
theorem dX5_readPlace_19 : decode cX5_readPlace 19 = .ok (.aload_n 0, 1) := by decide +kernel
theorem dX5_readPlace_20 : decode cX5_readPlace 20 = .ok (.iconst 4, 1) := by decide +kernel
theorem dX5_readPlace_21 : decode cX5_readPlace 21 = .ok (.aload_n 0, 1) := by decide +kernel
theorem dX5_readPlace_22 : decode cX5_readPlace 22 = .ok (.getfield 85, 3) := by decide +kernel
theorem dX5_readPlace_25 : decode cX5_readPlace 25 = .ok (.invokevirtual 95, 3) := by decide +kernel
theorem dX5_readPlace_28 : decode cX5_readPlace 28 = .ok (.ireturn, 1) := by decide +kernel
theorem dX5_readPlace_29 : decode cX5_readPlace 29 = .ok (.aload_n 0, 1) := by decide +kernel
theorem dX5_readPlace_30 : decode cX5_readPlace 30 = .ok (.invokevirtual 122, 3) := by decide +kernel
theorem dX5_readPlace_33 : decode cX5_readPlace 33 = .ok (.ifCond .ne 5, 3) := by decide +kernel
theorem dX5_readPlace_36 : decode cX5_readPlace 36 = .ok (.iconst 0, 1) := by decide +kernel
theorem dX5_readPlace_37 : decode cX5_readPlace 37 = .ok (.ireturn, 1) := by decide +kernel
theorem dX5_readPlace_38 : decode cX5_readPlace 38 = .ok (.aload_n 0, 1) := by decide +kernel
theorem dX5_readPlace_39 : decode cX5_readPlace 39 = .ok (.invokevirtual 256, 3) := by decide +kernel
theorem dX5_readPlace_42 : decode cX5_readPlace 42 = .ok (.istore_n 2, 1) := by decide +kernel
theorem dX5_readPlace_43 : decode cX5_readPlace 43 = .ok (.iload_n 2, 1) := by decide +kernel
theorem dX5_readPlace_44 : decode cX5_readPlace 44 = .ok (.iconst (-1), 1) := by decide +kernel
theorem dX5_readPlace_45 : decode cX5_readPlace 45 = .ok (.if_icmp .ne 13, 3) := by decide +kernel
theorem dX5_readPlace_48 : decode cX5_readPlace 48 = .ok (.aload_n 0, 1) := by decide +kernel
theorem dX5_readPlace_49 : decode cX5_readPlace 49 = .ok (.iconst 1, 1) := by decide +kernel
theorem dX5_readPlace_50 : decode cX5_readPlace 50 = .ok (.aload_n 0, 1) := by decide +kernel
theorem dX5_readPlace_51 : decode cX5_readPlace 51 = .ok (.getfield 85, 3) := by decide +kernel
theorem dX5_readPlace_54 : decode cX5_readPlace 54 = .ok (.invokevirtual 95, 3) := by decide +kernel
theorem dX5_readPlace_57 : decode cX5_readPlace 57 = .ok (.ireturn, 1) := by decide +kernel
theorem dX5_readPlace_58 : decode cX5_readPlace 58 = .ok (.aload_n 0, 1) := by decide +kernel
theorem dX5_readPlace_59 : decode cX5_readPlace 59 = .ok (.getfield 12, 3) := by decide +kernel
theorem dX5_readPlace_62 : decode cX5_readPlace 62 = .ok (.iload_n 1, 1) := by decide +kernel
theorem dX5_readPlace_63 : decode cX5_readPlace 63 = .ok (.iload_n 2, 1) := by decide +kernel
theorem dX5_readPlace_64 : decode cX5_readPlace 64 = .ok (.invokevirtual 259, 3) := by decide +kernel
theorem dX5_readPlace_67 : decode cX5_readPlace 67 = .ok (.ifCond .eq 13, 3) := by decide +kernel
theorem dX5_readPlace_70 : decode cX5_readPlace 70 = .ok (.aload_n 0, 1) := by decide +kernel
theorem dX5_readPlace_71 : decode cX5_readPlace 71 = .ok (.iconst 3, 1) := by decide +kernel
theorem dX5_readPlace_72 : decode cX5_readPlace 72 = .ok (.aload_n 0, 1) := by decide +kernel
theorem dX5_readPlace_73 : decode cX5_readPlace 73 = .ok (.getfield 85, 3) := by decide +kernel
theorem dX5_readPlace_76 : decode cX5_readPlace 76 = .ok (.invokevirtual 95, 3) := by decide +kernel
theorem dX5_readPlace_79 : decode cX5_readPlace 79 = .ok (.ireturn, 1) := by decide +kernel
theorem dX5_readPlace_80 : decode cX5_readPlace 80 = .ok (.aload_n 0, 1) := by decide +kernel
theorem dX5_readPlace_81 : decode cX5_readPlace 81 = .ok (.getfield 12, 3) := by decide +kernel
theorem dX5_readPlace_84 : decode cX5_readPlace 84 = .ok (.iload_n 1, 1) := by decide +kernel
theorem dX5_readPlace_85 : decode cX5_readPlace 85 = .ok (.iload_n 2, 1) := by decide +kernel
theorem dX5_readPlace_86 : decode cX5_readPlace 86 = .ok (.invokevirtual 262, 3) := by decide +kernel
theorem dX5_readPlace_89 : decode cX5_readPlace 89 = .ok (.iconst 1, 1) := by decide +kernel
theorem dX5_readPlace_90 : decode cX5_readPlace 90 = .ok (.ireturn, 1) := by decide +kernel
set_option maxRecDepth 20000 in
theorem ggX5_readVoyage_X5_fail : GoodIn wsX5_readVoyage wsX5_fail := goodIn_r _ [8, 9, 10, 58, 59, 60, 61, 62, 63, 64, 65, 66, 67, 68, 69, 70, 71] (by decide +kernel) (by decide +kernel)
set_option maxRecDepth 20000 in
theorem gX5_readVoyage_X5_fail : GoodIn wsX5_readVoyage (wsV RX5 95 RX5 yX5_fail wsX5_fail) := goodIn_app (goodIn_of _ (by decide +kernel)) ggX5_readVoyage_X5_fail
set_option maxRecDepth 20000 in
theorem ggX5_readVoyage_X5_nextSign : GoodIn wsX5_readVoyage wsX5_nextSign := goodIn_r _ [14, 15, 16, 17, 18, 19, 7, 20, 21, 58, 59, 60, 61, 62, 63, 64, 65, 66, 67, 68, 69, 70, 71] (by decide +kernel) (by decide +kernel)
set_option maxRecDepth 20000 in
theorem gX5_readVoyage_X5_nextSign : GoodIn wsX5_readVoyage (wsV RX5 53 RX5 yX5_nextSign wsX5_nextSign) := goodIn_app (goodIn_of _ (by decide +kernel)) ggX5_readVoyage_X5_nextSign
set_option maxRecDepth 20000 in
theorem ggX5_readVoyage_X5_isLetter : GoodIn wsX5_readVoyage wsX5_isLetter := goodIn_r _ [24] (by decide +kernel) (by decide +kernel)
set_option maxRecDepth 20000 in
theorem gX5_readVoyage_X5_isLetter : GoodIn wsX5_readVoyage (va_wsS RX5 88 yX5_isLetter wsX5_isLetter) := goodIn_app (goodIn_of _ (by decide +kernel)) ggX5_readVoyage_X5_isLetter
set_option maxRecDepth 20000 in
theorem ggX5_readVoyage_X5_takeName : GoodIn wsX5_readVoyage wsX5_takeName := goodIn_r _ [28, 29, 2, 30, 31, 32, 7, 33, 16, 15, 11, 12, 13, 14, 17, 18, 19, 20, 21, 22, 23, 24, 4, 5, 6, 8, 9, 10, 58, 59, 60, 61, 62, 63, 64, 65, 66, 67, 68, 69, 70, 71] (by decide +kernel) (by decide +kernel)
set_option maxRecDepth 20000 in
theorem gX5_readVoyage_X5_takeName : GoodIn wsX5_readVoyage (wsV RX5 193 RX5 yX5_takeName wsX5_takeName) := goodIn_app (goodIn_of _ (by decide +kernel)) ggX5_readVoyage_X5_takeName
set_option maxRecDepth 20000 in
theorem ggX5_readVoyage_X5_namedHarbour : GoodIn wsX5_readVoyage wsX5_namedHarbour := goodIn_r _ [37, 3, 29, 2, 38, 39, 40, 41, 42, 43, 44, 45, 46, 47, 48, 49, 50, 17, 18, 19, 7, 20, 15, 21, 58, 59, 60, 61, 62, 63, 64, 65, 66, 67, 68, 69, 70, 71, 72, 73, 74, 75, 76, 77, 78, 79, 80, 81, 82] (by decide +kernel) (by decide +kernel)
set_option maxRecDepth 20000 in
theorem gX5_readVoyage_X5_namedHarbour : GoodIn wsX5_readVoyage (wsV RX5 196 RX5 yX5_namedHarbour wsX5_namedHarbour) := goodIn_app (goodIn_of _ (by decide +kernel)) ggX5_readVoyage_X5_namedHarbour
set_option maxRecDepth 20000 in
theorem ggX5_readVoyage_X4_addStop : GoodIn wsX5_readVoyage wsX4_addStop := goodIn_r _ [55, 56, 57, 83, 84, 85, 86, 87] (by decide +kernel) (by decide +kernel)
set_option maxRecDepth 20000 in
theorem gX5_readVoyage_X4_addStop : GoodIn wsX5_readVoyage (wsV RX5 269 RX4 yX4_addStop wsX4_addStop) := goodIn_app (goodIn_of _ (by decide +kernel)) ggX5_readVoyage_X4_addStop
theorem dX5_readVoyage_0 : decode cX5_readVoyage 0 = .ok (.aload_n 0, 1) := by decide +kernel
theorem dX5_readVoyage_1 : decode cX5_readVoyage 1 = .ok (.getfield 45, 3) := by decide +kernel
theorem dX5_readVoyage_4 : decode cX5_readVoyage 4 = .ok (.ifCond .eq 13, 3) := by decide +kernel
theorem dX5_readVoyage_7 : decode cX5_readVoyage 7 = .ok (.aload_n 0, 1) := by decide +kernel
theorem dX5_readVoyage_8 : decode cX5_readVoyage 8 = .ok (.iconst 3, 1) := by decide +kernel
theorem dX5_readVoyage_9 : decode cX5_readVoyage 9 = .ok (.aload_n 0, 1) := by decide +kernel
theorem dX5_readVoyage_10 : decode cX5_readVoyage 10 = .ok (.getfield 85, 3) := by decide +kernel
theorem dX5_readVoyage_13 : decode cX5_readVoyage 13 = .ok (.invokevirtual 95, 3) := by decide +kernel
theorem dX5_readVoyage_16 : decode cX5_readVoyage 16 = .ok (.ireturn, 1) := by decide +kernel
theorem dX5_readVoyage_17 : decode cX5_readVoyage 17 = .ok (.aload_n 0, 1) := by decide +kernel
theorem dX5_readVoyage_18 : decode cX5_readVoyage 18 = .ok (.iconst 1, 1) := by decide +kernel
theorem dX5_readVoyage_19 : decode cX5_readVoyage 19 = .ok (.putfield 45, 3) := by decide +kernel
theorem dX5_readVoyage_22 : decode cX5_readVoyage 22 = .ok (.iconst 0, 1) := by decide +kernel
theorem dX5_readVoyage_23 : decode cX5_readVoyage 23 = .ok (.istore_n 1, 1) := by decide +kernel
theorem dX5_readVoyage_24 : decode cX5_readVoyage 24 = .ok (.iload_n 1, 1) := by decide +kernel
theorem dX5_readVoyage_25 : decode cX5_readVoyage 25 = .ok (.ifCond .eq 19, 3) := by decide +kernel
theorem dX5_readVoyage_28 : decode cX5_readVoyage 28 = .ok (.aload_n 0, 1) := by decide +kernel
theorem dX5_readVoyage_29 : decode cX5_readVoyage 29 = .ok (.invokevirtual 53, 3) := by decide +kernel
theorem dX5_readVoyage_32 : decode cX5_readVoyage 32 = .ok (.invokestatic 88, 3) := by decide +kernel
theorem dX5_readVoyage_35 : decode cX5_readVoyage 35 = .ok (.ifCond .eq 71, 3) := by decide +kernel
theorem dX5_readVoyage_38 : decode cX5_readVoyage 38 = .ok (.iload_n 1, 1) := by decide +kernel
theorem dX5_readVoyage_39 : decode cX5_readVoyage 39 = .ok (.bipush 16, 2) := by decide +kernel
theorem dX5_readVoyage_41 : decode cX5_readVoyage 41 = .ok (.if_icmp .gt 65, 3) := by decide +kernel
theorem dX5_readVoyage_44 : decode cX5_readVoyage 44 = .ok (.aload_n 0, 1) := by decide +kernel
theorem dX5_readVoyage_45 : decode cX5_readVoyage 45 = .ok (.invokevirtual 193, 3) := by decide +kernel
theorem dX5_readVoyage_48 : decode cX5_readVoyage 48 = .ok (.ifCond .ne 5, 3) := by decide +kernel
theorem dX5_readVoyage_51 : decode cX5_readVoyage 51 = .ok (.iconst 0, 1) := by decide +kernel
theorem dX5_readVoyage_52 : decode cX5_readVoyage 52 = .ok (.ireturn, 1) := by decide +kernel
theorem dX5_readVoyage_53 : decode cX5_readVoyage 53 = .ok (.iload_n 1, 1) := by decide +kernel
theorem dX5_readVoyage_54 : decode cX5_readVoyage 54 = .ok (.bipush 16, 2) := by decide +kernel
theorem dX5_readVoyage_56 : decode cX5_readVoyage 56 = .ok (.if_icmp .ne 13, 3) := by decide +kernel
theorem dX5_readVoyage_59 : decode cX5_readVoyage 59 = .ok (.aload_n 0, 1) := by decide +kernel
theorem dX5_readVoyage_60 : decode cX5_readVoyage 60 = .ok (.iconst 3, 1) := by decide +kernel
theorem dX5_readVoyage_61 : decode cX5_readVoyage 61 = .ok (.aload_n 0, 1) := by decide +kernel
theorem dX5_readVoyage_62 : decode cX5_readVoyage 62 = .ok (.getfield 85, 3) := by decide +kernel
theorem dX5_readVoyage_65 : decode cX5_readVoyage 65 = .ok (.invokevirtual 95, 3) := by decide +kernel
theorem dX5_readVoyage_68 : decode cX5_readVoyage 68 = .ok (.ireturn, 1) := by decide +kernel
theorem dX5_readVoyage_69 : decode cX5_readVoyage 69 = .ok (.aload_n 0, 1) := by decide +kernel
theorem dX5_readVoyage_70 : decode cX5_readVoyage 70 = .ok (.invokevirtual 196, 3) := by decide +kernel
theorem dX5_readVoyage_73 : decode cX5_readVoyage 73 = .ok (.istore_n 2, 1) := by decide +kernel
theorem dX5_readVoyage_74 : decode cX5_readVoyage 74 = .ok (.iload_n 2, 1) := by decide +kernel
theorem dX5_readVoyage_75 : decode cX5_readVoyage 75 = .ok (.iconst (-1), 1) := by decide +kernel
theorem dX5_readVoyage_76 : decode cX5_readVoyage 76 = .ok (.if_icmp .ne 13, 3) := by decide +kernel
theorem dX5_readVoyage_79 : decode cX5_readVoyage 79 = .ok (.aload_n 0, 1) := by decide +kernel
theorem dX5_readVoyage_80 : decode cX5_readVoyage 80 = .ok (.iconst 4, 1) := by decide +kernel
theorem dX5_readVoyage_81 : decode cX5_readVoyage 81 = .ok (.aload_n 0, 1) := by decide +kernel
theorem dX5_readVoyage_82 : decode cX5_readVoyage 82 = .ok (.getfield 85, 3) := by decide +kernel
theorem dX5_readVoyage_85 : decode cX5_readVoyage 85 = .ok (.invokevirtual 95, 3) := by decide +kernel
theorem dX5_readVoyage_88 : decode cX5_readVoyage 88 = .ok (.ireturn, 1) := by decide +kernel
theorem dX5_readVoyage_89 : decode cX5_readVoyage 89 = .ok (.aload_n 0, 1) := by decide +kernel
theorem dX5_readVoyage_90 : decode cX5_readVoyage 90 = .ok (.getfield 12, 3) := by decide +kernel
theorem dX5_readVoyage_93 : decode cX5_readVoyage 93 = .ok (.getfield 265, 3) := by decide +kernel
theorem dX5_readVoyage_96 : decode cX5_readVoyage 96 = .ok (.iload_n 2, 1) := by decide +kernel
theorem dX5_readVoyage_97 : decode cX5_readVoyage 97 = .ok (.invokevirtual 269, 3) := by decide +kernel
theorem dX5_readVoyage_100 : decode cX5_readVoyage 100 = .ok (.iinc 1 1, 3) := by decide +kernel
theorem dX5_readVoyage_103 : decode cX5_readVoyage 103 = .ok (.goto (-79), 3) := by decide +kernel
theorem dX5_readVoyage_106 : decode cX5_readVoyage 106 = .ok (.iconst 1, 1) := by decide +kernel
theorem dX5_readVoyage_107 : decode cX5_readVoyage 107 = .ok (.ireturn, 1) := by decide +kernel
set_option maxRecDepth 20000 in
theorem ggX5_readTurn_X5_takeNumber : GoodIn wsX5_readTurn wsX5_takeNumber := goodIn_r _ [7, 8, 9, 2, 10, 11, 12, 13, 14, 15, 16, 17, 6, 18, 19, 20, 21, 22, 23, 24, 25, 26, 27, 28, 29, 30, 31, 32, 33, 34, 35, 36, 37, 38, 39, 40, 41, 42, 43, 44, 45, 46] (by decide +kernel) (by decide +kernel)
set_option maxRecDepth 20000 in
theorem gX5_readTurn_X5_takeNumber : GoodIn wsX5_readTurn (wsV RX5 149 RX5 yX5_takeNumber wsX5_takeNumber) := goodIn_app (goodIn_of _ (by decide +kernel)) ggX5_readTurn_X5_takeNumber
theorem dX5_readTurn_0 : decode cX5_readTurn 0 = .ok (.aload_n 0, 1) := by decide +kernel
theorem dX5_readTurn_1 : decode cX5_readTurn 1 = .ok (.iconst 0, 1) := by decide +kernel
theorem dX5_readTurn_2 : decode cX5_readTurn 2 = .ok (.iconst 3, 1) := by decide +kernel
theorem dX5_readTurn_3 : decode cX5_readTurn 3 = .ok (.invokevirtual 149, 3) := by decide +kernel
theorem dX5_readTurn_6 : decode cX5_readTurn 6 = .ok (.ifCond .ne 5, 3) := by decide +kernel
theorem dX5_readTurn_9 : decode cX5_readTurn 9 = .ok (.iconst 0, 1) := by decide +kernel
theorem dX5_readTurn_10 : decode cX5_readTurn 10 = .ok (.ireturn, 1) := by decide +kernel
theorem dX5_readTurn_11 : decode cX5_readTurn 11 = .ok (.aload_n 0, 1) := by decide +kernel
theorem dX5_readTurn_12 : decode cX5_readTurn 12 = .ok (.getfield 12, 3) := by decide +kernel
theorem dX5_readTurn_15 : decode cX5_readTurn 15 = .ok (.getfield 265, 3) := by decide +kernel
theorem dX5_readTurn_18 : decode cX5_readTurn 18 = .ok (.aload_n 0, 1) := by decide +kernel
theorem dX5_readTurn_19 : decode cX5_readTurn 19 = .ok (.getfield 110, 3) := by decide +kernel
theorem dX5_readTurn_22 : decode cX5_readTurn 22 = .ok (.putfield 274, 3) := by decide +kernel
theorem dX5_readTurn_25 : decode cX5_readTurn 25 = .ok (.iconst 1, 1) := by decide +kernel
theorem dX5_readTurn_26 : decode cX5_readTurn 26 = .ok (.ireturn, 1) := by decide +kernel
