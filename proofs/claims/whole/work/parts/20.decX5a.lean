set_option maxRecDepth 20000 in
theorem ggX5_init_X6_init : GoodIn wsX5_init wsX6_init := goodIn_r _ [15, 16, 2, 3, 17, 18, 19, 20, 21, 22, 23, 24, 25, 26, 27, 28, 12, 29, 30, 31, 32, 33, 34, 35, 36, 37, 38, 39, 40, 41, 42, 43, 44, 45, 46, 47, 48, 78, 79, 80, 81, 82, 83, 55, 56, 57, 58, 59, 84, 85, 86, 87, 88, 89, 90, 91, 92, 93, 94] (by decide +kernel) (by decide +kernel)
set_option maxRecDepth 20000 in
theorem gX5_init_X6_init_n11 : GoodIn wsX5_init (wsX6_init) := ggX5_init_X6_init
set_option maxRecDepth 20000 in
theorem ggX5_init_X7_init : GoodIn wsX5_init wsX7_init := goodIn_r _ [50, 51, 2, 3, 12, 52, 53, 54, 74, 75, 76, 77] (by decide +kernel) (by decide +kernel)
set_option maxRecDepth 20000 in
theorem gX5_init_X7_init_n20 : GoodIn wsX5_init (wsX7_init) := ggX5_init_X7_init
theorem dX5_init_0 : decode cX5_init 0 = .ok (.aload_n 0, 1) := by decide +kernel
theorem dX5_init_1 : decode cX5_init 1 = .ok (.invokespecial 3, 3) := by decide +kernel
theorem dX5_init_4 : decode cX5_init 4 = .ok (.aload_n 0, 1) := by decide +kernel
theorem dX5_init_5 : decode cX5_init 5 = .ok (.new 9, 3) := by decide +kernel
theorem dX5_init_8 : decode cX5_init 8 = .ok (.dup, 1) := by decide +kernel
theorem dX5_init_9 : decode cX5_init 9 = .ok (.invokespecial 11, 3) := by decide +kernel
theorem dX5_init_12 : decode cX5_init 12 = .ok (.putfield 12, 3) := by decide +kernel
theorem dX5_init_15 : decode cX5_init 15 = .ok (.aload_n 0, 1) := by decide +kernel
theorem dX5_init_16 : decode cX5_init 16 = .ok (.new 18, 3) := by decide +kernel
theorem dX5_init_19 : decode cX5_init 19 = .ok (.dup, 1) := by decide +kernel
theorem dX5_init_20 : decode cX5_init 20 = .ok (.invokespecial 20, 3) := by decide +kernel
theorem dX5_init_23 : decode cX5_init 23 = .ok (.putfield 21, 3) := by decide +kernel
theorem dX5_init_26 : decode cX5_init 26 = .ok (.aload_n 0, 1) := by decide +kernel
theorem dX5_init_27 : decode cX5_init 27 = .ok (.sipush 500, 3) := by decide +kernel
theorem dX5_init_30 : decode cX5_init 30 = .ok (.newarray .int, 2) := by decide +kernel
theorem dX5_init_32 : decode cX5_init 32 = .ok (.putfield 25, 3) := by decide +kernel
theorem dX5_init_35 : decode cX5_init 35 = .ok (.return_, 1) := by decide +kernel
theorem dX5_addByte_0 : decode cX5_addByte 0 = .ok (.aload_n 0, 1) := by decide +kernel
theorem dX5_addByte_1 : decode cX5_addByte 1 = .ok (.getfield 29, 3) := by decide +kernel
theorem dX5_addByte_4 : decode cX5_addByte 4 = .ok (.sipush 500, 3) := by decide +kernel
theorem dX5_addByte_7 : decode cX5_addByte 7 = .ok (.if_icmp .ge 23, 3) := by decide +kernel
theorem dX5_addByte_10 : decode cX5_addByte 10 = .ok (.aload_n 0, 1) := by decide +kernel
theorem dX5_addByte_11 : decode cX5_addByte 11 = .ok (.getfield 25, 3) := by decide +kernel
theorem dX5_addByte_14 : decode cX5_addByte 14 = .ok (.aload_n 0, 1) := by decide +kernel
theorem dX5_addByte_15 : decode cX5_addByte 15 = .ok (.getfield 29, 3) := by decide +kernel
theorem dX5_addByte_18 : decode cX5_addByte 18 = .ok (.iload_n 1, 1) := by decide +kernel
theorem dX5_addByte_19 : decode cX5_addByte 19 = .ok (.iastore, 1) := by decide +kernel
theorem dX5_addByte_20 : decode cX5_addByte 20 = .ok (.aload_n 0, 1) := by decide +kernel
theorem dX5_addByte_21 : decode cX5_addByte 21 = .ok (.dup, 1) := by decide +kernel
theorem dX5_addByte_22 : decode cX5_addByte 22 = .ok (.getfield 29, 3) := by decide +kernel
theorem dX5_addByte_25 : decode cX5_addByte 25 = .ok (.iconst 1, 1) := by decide +kernel
theorem dX5_addByte_26 : decode cX5_addByte 26 = .ok (.iadd, 1) := by decide +kernel
theorem dX5_addByte_27 : decode cX5_addByte 27 = .ok (.putfield 29, 3) := by decide +kernel
theorem dX5_addByte_30 : decode cX5_addByte 30 = .ok (.return_, 1) := by decide +kernel
set_option maxRecDepth 20000 in
theorem ggX5_readText_X5_readChart : GoodIn wsX5_readText wsX5_readChart := goodIn_r _ [11, 12, 13, 14, 15, 16, 17, 10, 18, 1, 6, 19, 20, 21, 22, 23, 24, 25, 26, 27, 28, 29, 30, 31, 32, 33, 34, 35, 3, 4, 36, 37, 38, 39, 40, 41, 42, 43, 44, 45, 46, 47, 48, 49, 50, 51, 52, 53, 54, 55, 56, 57, 58, 59, 60, 61, 62, 63, 64, 65, 66, 67, 68, 69, 70, 71, 72, 73, 74, 75, 76, 77, 78, 79, 80, 81, 82, 83, 84, 85, 86, 87, 88, 89, 90, 91, 92, 93, 94, 95, 96, 97, 98, 99, 100, 101, 102, 103, 104, 105, 106, 107, 108, 109, 110, 111, 112, 113, 114, 115, 116, 117, 118, 119, 120, 121, 122, 123, 124, 125, 126, 127, 128, 129, 130, 131, 132, 133, 134, 135, 136, 137, 353, 354, 355, 356, 357, 358, 359, 360, 361, 362, 363, 364, 365, 366, 367, 368, 369, 370, 371, 372, 373, 374, 375, 376, 377, 378, 379, 380, 381, 382, 383, 384, 385, 386, 387, 388] (by decide +kernel) (by decide +kernel)
set_option maxRecDepth 20000 in
theorem gX5_readText_X5_readChart : GoodIn wsX5_readText (wsV RX5 49 RX5 yX5_readChart wsX5_readChart) := goodIn_app (goodIn_of _ (by decide +kernel)) ggX5_readText_X5_readChart
set_option maxRecDepth 20000 in
theorem ggX5_readText_X5_nextSign : GoodIn wsX5_readText wsX5_nextSign := goodIn_r _ [23, 6, 1, 24, 25, 26, 10, 27, 28, 353, 354, 355, 356, 357, 358, 359, 360, 361, 362, 363, 364, 365, 366] (by decide +kernel) (by decide +kernel)
set_option maxRecDepth 20000 in
theorem gX5_readText_X5_nextSign : GoodIn wsX5_readText (wsV RX5 53 RX5 yX5_nextSign wsX5_nextSign) := goodIn_app (goodIn_of _ (by decide +kernel)) ggX5_readText_X5_nextSign
set_option maxRecDepth 20000 in
theorem ggX5_readText_X5_takeSemicolon : GoodIn wsX5_readText wsX5_takeSemicolon := goodIn_r _ [141, 1, 2, 20, 21, 22, 10, 23, 6, 24, 25, 26, 27, 28, 32, 33, 34, 35, 3, 4, 353, 354, 355, 356, 357, 358, 359, 360, 361, 362, 363, 364, 365, 366] (by decide +kernel) (by decide +kernel)
set_option maxRecDepth 20000 in
theorem gX5_readText_X5_takeSemicolon : GoodIn wsX5_readText (wsV RX5 57 RX5 yX5_takeSemicolon wsX5_takeSemicolon) := goodIn_app (goodIn_of _ (by decide +kernel)) ggX5_readText_X5_takeSemicolon
set_option maxRecDepth 20000 in
theorem ggX5_readText_X5_takeKeyword : GoodIn wsX5_readText wsX5_takeKeyword := goodIn_r _ [145, 12, 15, 16, 17, 10, 18, 1, 6, 19, 20, 21, 22, 23, 24, 25, 26, 27, 28, 29, 30, 31, 32, 33, 34, 35, 3, 4, 36, 37, 38, 39, 40, 41, 42, 43, 44, 45, 46, 47, 48, 49, 50, 51, 52, 53, 54, 55, 56, 57, 58, 59, 60, 61, 62, 63, 64, 65, 66, 67, 68, 69, 70, 71, 72, 73, 74, 75, 76, 77, 78, 79, 80, 81, 82, 83, 84, 85, 86, 87, 88, 353, 354, 355, 356, 357, 358, 359, 360, 361, 362, 363, 364, 365, 366] (by decide +kernel) (by decide +kernel)
set_option maxRecDepth 20000 in
theorem gX5_readText_X5_takeKeyword : GoodIn wsX5_readText (wsV RX5 60 RX5 yX5_takeKeyword wsX5_takeKeyword) := goodIn_app (goodIn_of _ (by decide +kernel)) ggX5_readText_X5_takeKeyword
set_option maxRecDepth 20000 in
theorem ggX5_readText_X5_readLand : GoodIn wsX5_readText wsX5_readLand := goodIn_r _ [149, 14, 12, 150, 13, 151, 152, 96, 153, 32, 33, 34, 10, 35, 3, 4, 154, 155, 156, 157, 89, 90, 91, 92, 1, 93, 6, 94, 95, 97, 20, 21, 22, 23, 24, 25, 26, 27, 28, 98, 99, 100, 158, 159, 160, 114, 161, 119, 353, 354, 355, 356, 357, 358, 359, 360, 361, 362, 363, 364, 365, 366, 367, 368, 369, 370, 371, 378, 379, 380, 381, 382, 383, 372, 373, 374, 375, 376, 377] (by decide +kernel) (by decide +kernel)
set_option maxRecDepth 20000 in
theorem gX5_readText_X5_readLand : GoodIn wsX5_readText (wsV RX5 63 RX5 yX5_readLand wsX5_readLand) := goodIn_app (goodIn_of _ (by decide +kernel)) ggX5_readText_X5_readLand
set_option maxRecDepth 20000 in
theorem ggX5_readText_X5_readHarbour : GoodIn wsX5_readText wsX5_readHarbour := goodIn_r _ [165, 14, 12, 19, 150, 93, 28, 32, 33, 34, 10, 35, 3, 4, 166, 167, 168, 169, 15, 16, 17, 18, 1, 6, 20, 21, 22, 23, 24, 25, 26, 27, 29, 30, 31, 170, 171, 172, 173, 174, 175, 176, 125, 177, 127, 178, 179, 180, 181, 182, 183, 184, 154, 155, 156, 157, 13, 89, 90, 91, 92, 94, 95, 96, 97, 98, 99, 100, 185, 186, 187, 104, 188, 106, 107, 189, 190, 191, 114, 192, 119, 193, 194, 195, 196, 120, 197, 198, 199, 200, 201, 202, 203, 204, 205, 109, 206, 207, 208, 209, 210, 211, 212, 213, 116, 117, 214, 215, 216, 217, 218, 219, 220, 221, 222, 223, 224, 36, 37, 38, 39, 40, 41, 42, 43, 44, 45, 46, 47, 48, 49, 50, 51, 52, 53, 54, 55, 56, 57, 58, 59, 60, 61, 62, 63, 64, 65, 66, 67, 68, 69, 70, 71, 72, 73, 74, 75, 76, 77, 78, 79, 80, 81, 82, 83, 84, 85, 86, 87, 88, 225, 226, 227, 228, 128, 353, 354, 355, 356, 357, 358, 359, 360, 361, 362, 363, 364, 365, 366, 367, 368, 369, 370, 371, 378, 379, 380, 381, 382, 383, 372, 373, 374, 375, 376, 377] (by decide +kernel) (by decide +kernel)
set_option maxRecDepth 20000 in
theorem gX5_readText_X5_readHarbour : GoodIn wsX5_readText (wsV RX5 66 RX5 yX5_readHarbour wsX5_readHarbour) := goodIn_app (goodIn_of _ (by decide +kernel)) ggX5_readText_X5_readHarbour
set_option maxRecDepth 20000 in
theorem ggX5_readText_X5_readRiver : GoodIn wsX5_readText wsX5_readRiver := goodIn_r _ [232, 14, 12, 233, 150, 93, 32, 33, 34, 10, 35, 3, 4, 154, 155, 156, 157, 13, 89, 90, 91, 92, 1, 6, 94, 95, 96, 97, 20, 21, 22, 23, 24, 25, 26, 27, 28, 98, 99, 100, 234, 235, 236, 237, 238, 239, 240, 241, 242, 243, 244, 114, 245, 116, 117, 246, 186, 187, 104, 188, 106, 107, 189, 190, 191, 192, 119, 193, 194, 195, 196, 120, 197, 198, 199, 125, 200, 127, 201, 247, 203, 204, 205, 109, 248, 249, 250, 251, 210, 211, 212, 213, 214, 252, 253, 254, 255, 256, 257, 258, 259, 260, 261, 262, 263, 264, 265, 266, 267, 268, 269, 270, 271, 272, 273, 274, 275, 276, 277, 278, 279, 280, 281, 282, 283, 284, 285, 286, 287, 288, 289, 290, 291, 292, 293, 294, 295, 219, 296, 175, 176, 177, 178, 297, 298, 299, 300, 301, 302, 303, 304, 305, 118, 121, 353, 354, 355, 356, 357, 358, 359, 360, 361, 362, 363, 364, 365, 366, 367, 368, 369, 370, 371, 372, 373, 374, 375, 376, 377, 389, 390, 391, 392, 378, 379, 380, 381, 382, 383] (by decide +kernel) (by decide +kernel)
set_option maxRecDepth 20000 in
theorem gX5_readText_X5_readRiver : GoodIn wsX5_readText (wsV RX5 69 RX5 yX5_readRiver wsX5_readRiver) := goodIn_app (goodIn_of _ (by decide +kernel)) ggX5_readText_X5_readRiver
set_option maxRecDepth 20000 in
theorem ggX5_readText_X5_readPlace : GoodIn wsX5_readText wsX5_readPlace := goodIn_r _ [309, 12, 14, 166, 167, 168, 10, 169, 19, 15, 16, 17, 18, 1, 6, 20, 21, 22, 23, 24, 25, 26, 27, 28, 29, 30, 31, 32, 33, 34, 35, 3, 4, 170, 171, 172, 173, 174, 175, 176, 125, 177, 127, 178, 179, 180, 181, 182, 183, 184, 310, 311, 312, 313, 36, 37, 38, 39, 40, 41, 42, 43, 44, 45, 46, 47, 48, 49, 50, 51, 52, 53, 54, 55, 56, 57, 58, 59, 60, 61, 62, 63, 64, 65, 66, 67, 68, 69, 70, 71, 72, 73, 74, 75, 76, 77, 78, 79, 80, 81, 82, 83, 84, 85, 86, 87, 88, 314, 315, 316, 104, 317, 318, 319, 320, 321, 107, 106, 288, 289, 290, 291, 201, 297, 211, 212, 114, 213, 116, 117, 189, 190, 191, 192, 119, 296, 322, 323, 324, 325, 193, 194, 195, 196, 120, 197, 198, 199, 200, 326, 327, 328, 329, 330, 203, 204, 205, 109, 331, 332, 333, 334, 110, 335, 336, 337, 338, 339, 284, 285, 286, 287, 292, 293, 294, 295, 219, 298, 299, 300, 301, 353, 354, 355, 356, 357, 358, 359, 360, 361, 362, 363, 364, 365, 366, 367, 368, 369, 370, 371, 378, 379, 380, 381, 382, 383, 372, 373, 374, 375, 376, 377] (by decide +kernel) (by decide +kernel)
set_option maxRecDepth 20000 in
theorem gX5_readText_X5_readPlace : GoodIn wsX5_readText (wsV RX5 72 RX5 yX5_readPlace wsX5_readPlace) := goodIn_app (goodIn_of _ (by decide +kernel)) ggX5_readText_X5_readPlace
set_option maxRecDepth 20000 in
theorem ggX5_readText_X5_readVoyage : GoodIn wsX5_readText wsX5_readVoyage := goodIn_r _ [343, 5, 12, 14, 32, 33, 34, 10, 35, 3, 4, 20, 21, 22, 23, 6, 1, 24, 25, 26, 27, 28, 29, 30, 31, 166, 167, 168, 169, 19, 15, 16, 17, 18, 170, 171, 172, 173, 174, 175, 176, 125, 177, 127, 178, 179, 180, 181, 182, 183, 184, 344, 345, 346, 132, 347, 134, 348, 353, 354, 355, 356, 357, 358, 359, 360, 361, 362, 363, 364, 365, 366, 367, 368, 369, 370, 371, 378, 379, 380, 381, 382, 383, 384, 385, 386, 387, 388] (by decide +kernel) (by decide +kernel)
set_option maxRecDepth 20000 in
theorem gX5_readText_X5_readVoyage : GoodIn wsX5_readText (wsV RX5 75 RX5 yX5_readVoyage wsX5_readVoyage) := goodIn_app (goodIn_of _ (by decide +kernel)) ggX5_readText_X5_readVoyage
set_option maxRecDepth 20000 in
theorem ggX5_readText_X5_readTurn : GoodIn wsX5_readText wsX5_readTurn := goodIn_r _ [352, 14, 13, 89, 90, 91, 10, 92, 1, 93, 6, 94, 95, 96, 97, 20, 21, 22, 23, 24, 25, 26, 27, 28, 98, 99, 100, 32, 33, 34, 35, 3, 4, 353, 354, 355, 356, 357, 358, 359, 360, 361, 362, 363, 364, 365, 366, 367, 368, 369, 370, 371, 384, 385, 386, 387, 388] (by decide +kernel) (by decide +kernel)
set_option maxRecDepth 20000 in
theorem gX5_readText_X5_readTurn : GoodIn wsX5_readText (wsV RX5 78 RX5 yX5_readTurn wsX5_readTurn) := goodIn_app (goodIn_of _ (by decide +kernel)) ggX5_readText_X5_readTurn
theorem dX5_readText_0 : decode cX5_readText 0 = .ok (.aload_n 0, 1) := by decide +kernel
theorem dX5_readText_1 : decode cX5_readText 1 = .ok (.iconst 0, 1) := by decide +kernel
theorem dX5_readText_2 : decode cX5_readText 2 = .ok (.putfield 33, 3) := by decide +kernel
theorem dX5_readText_5 : decode cX5_readText 5 = .ok (.aload_n 0, 1) := by decide +kernel
theorem dX5_readText_6 : decode cX5_readText 6 = .ok (.iconst 0, 1) := by decide +kernel
theorem dX5_readText_7 : decode cX5_readText 7 = .ok (.putfield 36, 3) := by decide +kernel
theorem dX5_readText_10 : decode cX5_readText 10 = .ok (.aload_n 0, 1) := by decide +kernel
theorem dX5_readText_11 : decode cX5_readText 11 = .ok (.iconst 0, 1) := by decide +kernel
theorem dX5_readText_12 : decode cX5_readText 12 = .ok (.putfield 39, 3) := by decide +kernel
theorem dX5_readText_15 : decode cX5_readText 15 = .ok (.aload_n 0, 1) := by decide +kernel
theorem dX5_readText_16 : decode cX5_readText 16 = .ok (.iconst 0, 1) := by decide +kernel
theorem dX5_readText_17 : decode cX5_readText 17 = .ok (.putfield 42, 3) := by decide +kernel
theorem dX5_readText_20 : decode cX5_readText 20 = .ok (.aload_n 0, 1) := by decide +kernel
theorem dX5_readText_21 : decode cX5_readText 21 = .ok (.iconst 0, 1) := by decide +kernel
theorem dX5_readText_22 : decode cX5_readText 22 = .ok (.putfield 45, 3) := by decide +kernel
theorem dX5_readText_25 : decode cX5_readText 25 = .ok (.aload_n 0, 1) := by decide +kernel
theorem dX5_readText_26 : decode cX5_readText 26 = .ok (.invokevirtual 49, 3) := by decide +kernel
theorem dX5_readText_29 : decode cX5_readText 29 = .ok (.istore_n 1, 1) := by decide +kernel
theorem dX5_readText_30 : decode cX5_readText 30 = .ok (.iconst 0, 1) := by decide +kernel
theorem dX5_readText_31 : decode cX5_readText 31 = .ok (.istore_n 2, 1) := by decide +kernel
theorem dX5_readText_32 : decode cX5_readText 32 = .ok (.iload_n 2, 1) := by decide +kernel
theorem dX5_readText_33 : decode cX5_readText 33 = .ok (.aload_n 0, 1) := by decide +kernel
theorem dX5_readText_34 : decode cX5_readText 34 = .ok (.getfield 29, 3) := by decide +kernel
theorem dX5_readText_37 : decode cX5_readText 37 = .ok (.if_icmp .gt 127, 3) := by decide +kernel
theorem dX5_readText_40 : decode cX5_readText 40 = .ok (.iload_n 1, 1) := by decide +kernel
theorem dX5_readText_41 : decode cX5_readText 41 = .ok (.ifCond .eq 123, 3) := by decide +kernel
theorem dX5_readText_44 : decode cX5_readText 44 = .ok (.aload_n 0, 1) := by decide +kernel
theorem dX5_readText_45 : decode cX5_readText 45 = .ok (.invokevirtual 53, 3) := by decide +kernel
theorem dX5_readText_48 : decode cX5_readText 48 = .ok (.iconst (-1), 1) := by decide +kernel
theorem dX5_readText_49 : decode cX5_readText 49 = .ok (.if_icmp .eq 115, 3) := by decide +kernel
theorem dX5_readText_52 : decode cX5_readText 52 = .ok (.aload_n 0, 1) := by decide +kernel
theorem dX5_readText_53 : decode cX5_readText 53 = .ok (.invokevirtual 57, 3) := by decide +kernel
theorem dX5_readText_56 : decode cX5_readText 56 = .ok (.istore_n 1, 1) := by decide +kernel
theorem dX5_readText_57 : decode cX5_readText 57 = .ok (.iload_n 1, 1) := by decide +kernel
theorem dX5_readText_58 : decode cX5_readText 58 = .ok (.ifCond .eq 10, 3) := by decide +kernel
theorem dX5_readText_61 : decode cX5_readText 61 = .ok (.aload_n 0, 1) := by decide +kernel
theorem dX5_readText_62 : decode cX5_readText 62 = .ok (.invokevirtual 60, 3) := by decide +kernel
theorem dX5_readText_65 : decode cX5_readText 65 = .ok (.goto 4, 3) := by decide +kernel
theorem dX5_readText_68 : decode cX5_readText 68 = .ok (.iconst (-1), 1) := by decide +kernel
theorem dX5_readText_69 : decode cX5_readText 69 = .ok (.tableswitch 87 1 6 #[39, 47, 55, 63, 71, 79], 39) := by decide +kernel
theorem dX5_readText_108 : decode cX5_readText 108 = .ok (.aload_n 0, 1) := by decide +kernel
theorem dX5_readText_109 : decode cX5_readText 109 = .ok (.invokevirtual 63, 3) := by decide +kernel
theorem dX5_readText_112 : decode cX5_readText 112 = .ok (.istore_n 1, 1) := by decide +kernel
theorem dX5_readText_113 : decode cX5_readText 113 = .ok (.goto 45, 3) := by decide +kernel
theorem dX5_readText_116 : decode cX5_readText 116 = .ok (.aload_n 0, 1) := by decide +kernel
theorem dX5_readText_117 : decode cX5_readText 117 = .ok (.invokevirtual 66, 3) := by decide +kernel
theorem dX5_readText_120 : decode cX5_readText 120 = .ok (.istore_n 1, 1) := by decide +kernel
theorem dX5_readText_121 : decode cX5_readText 121 = .ok (.goto 37, 3) := by decide +kernel
theorem dX5_readText_124 : decode cX5_readText 124 = .ok (.aload_n 0, 1) := by decide +kernel
theorem dX5_readText_125 : decode cX5_readText 125 = .ok (.invokevirtual 69, 3) := by decide +kernel
theorem dX5_readText_128 : decode cX5_readText 128 = .ok (.istore_n 1, 1) := by decide +kernel
theorem dX5_readText_129 : decode cX5_readText 129 = .ok (.goto 29, 3) := by decide +kernel
theorem dX5_readText_132 : decode cX5_readText 132 = .ok (.aload_n 0, 1) := by decide +kernel
theorem dX5_readText_133 : decode cX5_readText 133 = .ok (.invokevirtual 72, 3) := by decide +kernel
theorem dX5_readText_136 : decode cX5_readText 136 = .ok (.istore_n 1, 1) := by decide +kernel
theorem dX5_readText_137 : decode cX5_readText 137 = .ok (.goto 21, 3) := by decide +kernel
theorem dX5_readText_140 : decode cX5_readText 140 = .ok (.aload_n 0, 1) := by decide +kernel
theorem dX5_readText_141 : decode cX5_readText 141 = .ok (.invokevirtual 75, 3) := by decide +kernel
theorem dX5_readText_144 : decode cX5_readText 144 = .ok (.istore_n 1, 1) := by decide +kernel
theorem dX5_readText_145 : decode cX5_readText 145 = .ok (.goto 13, 3) := by decide +kernel
theorem dX5_readText_148 : decode cX5_readText 148 = .ok (.aload_n 0, 1) := by decide +kernel
theorem dX5_readText_149 : decode cX5_readText 149 = .ok (.invokevirtual 78, 3) := by decide +kernel
theorem dX5_readText_152 : decode cX5_readText 152 = .ok (.istore_n 1, 1) := by decide +kernel
theorem dX5_readText_153 : decode cX5_readText 153 = .ok (.goto 5, 3) := by decide +kernel
theorem dX5_readText_156 : decode cX5_readText 156 = .ok (.iconst 0, 1) := by decide +kernel
theorem dX5_readText_157 : decode cX5_readText 157 = .ok (.istore_n 1, 1) := by decide +kernel
theorem dX5_readText_158 : decode cX5_readText 158 = .ok (.iinc 2 1, 3) := by decide +kernel
theorem dX5_readText_161 : decode cX5_readText 161 = .ok (.goto (-129), 3) := by decide +kernel
theorem dX5_readText_164 : decode cX5_readText 164 = .ok (.iload_n 1, 1) := by decide +kernel
theorem dX5_readText_165 : decode cX5_readText 165 = .ok (.ireturn, 1) := by decide +kernel
theorem dX5_fail_0 : decode cX5_fail 0 = .ok (.aload_n 0, 1) := by decide +kernel
theorem dX5_fail_1 : decode cX5_fail 1 = .ok (.iload_n 1, 1) := by decide +kernel
theorem dX5_fail_2 : decode cX5_fail 2 = .ok (.putfield 39, 3) := by decide +kernel
theorem dX5_fail_5 : decode cX5_fail 5 = .ok (.aload_n 0, 1) := by decide +kernel
theorem dX5_fail_6 : decode cX5_fail 6 = .ok (.iload_n 2, 1) := by decide +kernel
theorem dX5_fail_7 : decode cX5_fail 7 = .ok (.putfield 42, 3) := by decide +kernel
theorem dX5_fail_10 : decode cX5_fail 10 = .ok (.iconst 0, 1) := by decide +kernel
theorem dX5_fail_11 : decode cX5_fail 11 = .ok (.ireturn, 1) := by decide +kernel
theorem dX5_signAt_0 : decode cX5_signAt 0 = .ok (.iload_n 1, 1) := by decide +kernel
theorem dX5_signAt_1 : decode cX5_signAt 1 = .ok (.ifCond .lt 27, 3) := by decide +kernel
theorem dX5_signAt_4 : decode cX5_signAt 4 = .ok (.iload_n 1, 1) := by decide +kernel
theorem dX5_signAt_5 : decode cX5_signAt 5 = .ok (.aload_n 0, 1) := by decide +kernel
theorem dX5_signAt_6 : decode cX5_signAt 6 = .ok (.getfield 29, 3) := by decide +kernel
theorem dX5_signAt_9 : decode cX5_signAt 9 = .ok (.if_icmp .ge 19, 3) := by decide +kernel
theorem dX5_signAt_12 : decode cX5_signAt 12 = .ok (.iload_n 1, 1) := by decide +kernel
theorem dX5_signAt_13 : decode cX5_signAt 13 = .ok (.sipush 500, 3) := by decide +kernel
theorem dX5_signAt_16 : decode cX5_signAt 16 = .ok (.if_icmp .ge 12, 3) := by decide +kernel
theorem dX5_signAt_19 : decode cX5_signAt 19 = .ok (.aload_n 0, 1) := by decide +kernel
theorem dX5_signAt_20 : decode cX5_signAt 20 = .ok (.getfield 25, 3) := by decide +kernel
theorem dX5_signAt_23 : decode cX5_signAt 23 = .ok (.iload_n 1, 1) := by decide +kernel
theorem dX5_signAt_24 : decode cX5_signAt 24 = .ok (.iaload, 1) := by decide +kernel
theorem dX5_signAt_25 : decode cX5_signAt 25 = .ok (.goto 4, 3) := by decide +kernel
theorem dX5_signAt_28 : decode cX5_signAt 28 = .ok (.iconst (-1), 1) := by decide +kernel
theorem dX5_signAt_29 : decode cX5_signAt 29 = .ok (.ireturn, 1) := by decide +kernel
set_option maxRecDepth 20000 in
theorem ggX5_nextSign_X5_signAt : GoodIn wsX5_nextSign wsX5_signAt := goodIn_r _ [7, 1, 8, 9, 10, 11, 12, 13, 14, 15, 16, 17, 18, 19, 20, 21, 22] (by decide +kernel) (by decide +kernel)
set_option maxRecDepth 20000 in
theorem gX5_nextSign_X5_signAt : GoodIn wsX5_nextSign (wsV RX5 81 RX5 yX5_signAt wsX5_signAt) := goodIn_app (goodIn_of _ (by decide +kernel)) ggX5_nextSign_X5_signAt
theorem dX5_nextSign_0 : decode cX5_nextSign 0 = .ok (.iconst 0, 1) := by decide +kernel
theorem dX5_nextSign_1 : decode cX5_nextSign 1 = .ok (.istore_n 1, 1) := by decide +kernel
theorem dX5_nextSign_2 : decode cX5_nextSign 2 = .ok (.iload_n 1, 1) := by decide +kernel
theorem dX5_nextSign_3 : decode cX5_nextSign 3 = .ok (.aload_n 0, 1) := by decide +kernel
theorem dX5_nextSign_4 : decode cX5_nextSign 4 = .ok (.getfield 29, 3) := by decide +kernel
theorem dX5_nextSign_7 : decode cX5_nextSign 7 = .ok (.if_icmp .ge 32, 3) := by decide +kernel
theorem dX5_nextSign_10 : decode cX5_nextSign 10 = .ok (.aload_n 0, 1) := by decide +kernel
theorem dX5_nextSign_11 : decode cX5_nextSign 11 = .ok (.aload_n 0, 1) := by decide +kernel
theorem dX5_nextSign_12 : decode cX5_nextSign 12 = .ok (.getfield 33, 3) := by decide +kernel
theorem dX5_nextSign_15 : decode cX5_nextSign 15 = .ok (.invokevirtual 81, 3) := by decide +kernel
theorem dX5_nextSign_18 : decode cX5_nextSign 18 = .ok (.bipush 32, 2) := by decide +kernel
theorem dX5_nextSign_20 : decode cX5_nextSign 20 = .ok (.if_icmp .ne 19, 3) := by decide +kernel
theorem dX5_nextSign_23 : decode cX5_nextSign 23 = .ok (.aload_n 0, 1) := by decide +kernel
theorem dX5_nextSign_24 : decode cX5_nextSign 24 = .ok (.dup, 1) := by decide +kernel
theorem dX5_nextSign_25 : decode cX5_nextSign 25 = .ok (.getfield 33, 3) := by decide +kernel
theorem dX5_nextSign_28 : decode cX5_nextSign 28 = .ok (.iconst 1, 1) := by decide +kernel
theorem dX5_nextSign_29 : decode cX5_nextSign 29 = .ok (.iadd, 1) := by decide +kernel
theorem dX5_nextSign_30 : decode cX5_nextSign 30 = .ok (.putfield 33, 3) := by decide +kernel
theorem dX5_nextSign_33 : decode cX5_nextSign 33 = .ok (.iinc 1 1, 3) := by decide +kernel
theorem dX5_nextSign_36 : decode cX5_nextSign 36 = .ok (.goto (-34), 3) := by decide +kernel
theorem dX5_nextSign_39 : decode cX5_nextSign 39 = .ok (.aload_n 0, 1) := by decide +kernel
theorem dX5_nextSign_40 : decode cX5_nextSign 40 = .ok (.aload_n 0, 1) := by decide +kernel
theorem dX5_nextSign_41 : decode cX5_nextSign 41 = .ok (.getfield 33, 3) := by decide +kernel
theorem dX5_nextSign_44 : decode cX5_nextSign 44 = .ok (.invokevirtual 81, 3) := by decide +kernel
theorem dX5_nextSign_47 : decode cX5_nextSign 47 = .ok (.ireturn, 1) := by decide +kernel
theorem dX5_isLetter_0 : decode cX5_isLetter 0 = .ok (.iload_n 0, 1) := by decide +kernel
theorem dX5_isLetter_1 : decode cX5_isLetter 1 = .ok (.bipush 97, 2) := by decide +kernel
theorem dX5_isLetter_3 : decode cX5_isLetter 3 = .ok (.if_icmp .lt 13, 3) := by decide +kernel
theorem dX5_isLetter_6 : decode cX5_isLetter 6 = .ok (.iload_n 0, 1) := by decide +kernel
theorem dX5_isLetter_7 : decode cX5_isLetter 7 = .ok (.bipush 122, 2) := by decide +kernel
theorem dX5_isLetter_9 : decode cX5_isLetter 9 = .ok (.if_icmp .gt 7, 3) := by decide +kernel
theorem dX5_isLetter_12 : decode cX5_isLetter 12 = .ok (.iconst 1, 1) := by decide +kernel
theorem dX5_isLetter_13 : decode cX5_isLetter 13 = .ok (.goto 4, 3) := by decide +kernel
theorem dX5_isLetter_16 : decode cX5_isLetter 16 = .ok (.iconst 0, 1) := by decide +kernel
theorem dX5_isLetter_17 : decode cX5_isLetter 17 = .ok (.ireturn, 1) := by decide +kernel
theorem dX5_isDigit_0 : decode cX5_isDigit 0 = .ok (.iload_n 0, 1) := by decide +kernel
theorem dX5_isDigit_1 : decode cX5_isDigit 1 = .ok (.bipush 48, 2) := by decide +kernel
theorem dX5_isDigit_3 : decode cX5_isDigit 3 = .ok (.if_icmp .lt 13, 3) := by decide +kernel
theorem dX5_isDigit_6 : decode cX5_isDigit 6 = .ok (.iload_n 0, 1) := by decide +kernel
theorem dX5_isDigit_7 : decode cX5_isDigit 7 = .ok (.bipush 57, 2) := by decide +kernel
theorem dX5_isDigit_9 : decode cX5_isDigit 9 = .ok (.if_icmp .gt 7, 3) := by decide +kernel
theorem dX5_isDigit_12 : decode cX5_isDigit 12 = .ok (.iconst 1, 1) := by decide +kernel
theorem dX5_isDigit_13 : decode cX5_isDigit 13 = .ok (.goto 4, 3) := by decide +kernel
theorem dX5_isDigit_16 : decode cX5_isDigit 16 = .ok (.iconst 0, 1) := by decide +kernel
theorem dX5_isDigit_17 : decode cX5_isDigit 17 = .ok (.ireturn, 1) := by decide +kernel
set_option maxRecDepth 20000 in
theorem ggX5_takeWord_X5_nextSign : GoodIn wsX5_takeWord wsX5_nextSign := goodIn_r _ [9, 3, 1, 10, 11, 12, 8, 13, 14, 24, 25, 26, 27, 28, 29, 30, 31, 32, 33, 34, 35, 36, 37] (by decide +kernel) (by decide +kernel)
set_option maxRecDepth 20000 in
theorem gX5_takeWord_X5_nextSign : GoodIn wsX5_takeWord (wsV RX5 53 RX5 yX5_nextSign wsX5_nextSign) := goodIn_app (goodIn_of _ (by decide +kernel)) ggX5_takeWord_X5_nextSign
set_option maxRecDepth 20000 in
theorem ggX5_takeWord_X5_signAt : GoodIn wsX5_takeWord wsX5_signAt := goodIn_r _ [13, 3, 14, 24, 25, 26, 27, 28, 29, 30, 31, 32, 33, 34, 35, 36, 37] (by decide +kernel) (by decide +kernel)
set_option maxRecDepth 20000 in
theorem gX5_takeWord_X5_signAt : GoodIn wsX5_takeWord (wsV RX5 81 RX5 yX5_signAt wsX5_signAt) := goodIn_app (goodIn_of _ (by decide +kernel)) ggX5_takeWord_X5_signAt
set_option maxRecDepth 20000 in
theorem ggX5_takeWord_X5_isLetter : GoodIn wsX5_takeWord wsX5_isLetter := goodIn_r _ [17] (by decide +kernel) (by decide +kernel)
set_option maxRecDepth 20000 in
theorem gX5_takeWord_X5_isLetter : GoodIn wsX5_takeWord (va_wsS RX5 88 yX5_isLetter wsX5_isLetter) := goodIn_app (goodIn_of _ (by decide +kernel)) ggX5_takeWord_X5_isLetter
set_option maxRecDepth 20000 in
theorem ggX5_takeWord_X5_fail : GoodIn wsX5_takeWord wsX5_fail := goodIn_r _ [21, 22, 23, 24, 25, 26, 27, 28, 29, 30, 31, 32, 33, 34, 35, 36, 37] (by decide +kernel) (by decide +kernel)
set_option maxRecDepth 20000 in
theorem gX5_takeWord_X5_fail : GoodIn wsX5_takeWord (wsV RX5 95 RX5 yX5_fail wsX5_fail) := goodIn_app (goodIn_of _ (by decide +kernel)) ggX5_takeWord_X5_fail
theorem dX5_takeWord_0 : decode cX5_takeWord 0 = .ok (.aload_n 0, 1) := by decide +kernel
theorem dX5_takeWord_1 : decode cX5_takeWord 1 = .ok (.invokevirtual 53, 3) := by decide +kernel
theorem dX5_takeWord_4 : decode cX5_takeWord 4 = .ok (.pop, 1) := by decide +kernel
theorem dX5_takeWord_5 : decode cX5_takeWord 5 = .ok (.aload_n 0, 1) := by decide +kernel
theorem dX5_takeWord_6 : decode cX5_takeWord 6 = .ok (.aload_n 0, 1) := by decide +kernel
theorem dX5_takeWord_7 : decode cX5_takeWord 7 = .ok (.getfield 33, 3) := by decide +kernel
theorem dX5_takeWord_10 : decode cX5_takeWord 10 = .ok (.putfield 85, 3) := by decide +kernel
theorem dX5_takeWord_13 : decode cX5_takeWord 13 = .ok (.iconst 0, 1) := by decide +kernel
theorem dX5_takeWord_14 : decode cX5_takeWord 14 = .ok (.istore_n 1, 1) := by decide +kernel
theorem dX5_takeWord_15 : decode cX5_takeWord 15 = .ok (.iload_n 1, 1) := by decide +kernel
theorem dX5_takeWord_16 : decode cX5_takeWord 16 = .ok (.aload_n 0, 1) := by decide +kernel
theorem dX5_takeWord_17 : decode cX5_takeWord 17 = .ok (.getfield 29, 3) := by decide +kernel
theorem dX5_takeWord_20 : decode cX5_takeWord 20 = .ok (.if_icmp .ge 33, 3) := by decide +kernel
theorem dX5_takeWord_23 : decode cX5_takeWord 23 = .ok (.aload_n 0, 1) := by decide +kernel
theorem dX5_takeWord_24 : decode cX5_takeWord 24 = .ok (.aload_n 0, 1) := by decide +kernel
theorem dX5_takeWord_25 : decode cX5_takeWord 25 = .ok (.getfield 33, 3) := by decide +kernel
theorem dX5_takeWord_28 : decode cX5_takeWord 28 = .ok (.invokevirtual 81, 3) := by decide +kernel
theorem dX5_takeWord_31 : decode cX5_takeWord 31 = .ok (.invokestatic 88, 3) := by decide +kernel
theorem dX5_takeWord_34 : decode cX5_takeWord 34 = .ok (.ifCond .eq 19, 3) := by decide +kernel
theorem dX5_takeWord_37 : decode cX5_takeWord 37 = .ok (.aload_n 0, 1) := by decide +kernel
theorem dX5_takeWord_38 : decode cX5_takeWord 38 = .ok (.dup, 1) := by decide +kernel
theorem dX5_takeWord_39 : decode cX5_takeWord 39 = .ok (.getfield 33, 3) := by decide +kernel
theorem dX5_takeWord_42 : decode cX5_takeWord 42 = .ok (.iconst 1, 1) := by decide +kernel
theorem dX5_takeWord_43 : decode cX5_takeWord 43 = .ok (.iadd, 1) := by decide +kernel
theorem dX5_takeWord_44 : decode cX5_takeWord 44 = .ok (.putfield 33, 3) := by decide +kernel
theorem dX5_takeWord_47 : decode cX5_takeWord 47 = .ok (.iinc 1 1, 3) := by decide +kernel
theorem dX5_takeWord_50 : decode cX5_takeWord 50 = .ok (.goto (-35), 3) := by decide +kernel
theorem dX5_takeWord_53 : decode cX5_takeWord 53 = .ok (.aload_n 0, 1) := by decide +kernel
theorem dX5_takeWord_54 : decode cX5_takeWord 54 = .ok (.aload_n 0, 1) := by decide +kernel
theorem dX5_takeWord_55 : decode cX5_takeWord 55 = .ok (.getfield 33, 3) := by decide +kernel
theorem dX5_takeWord_58 : decode cX5_takeWord 58 = .ok (.aload_n 0, 1) := by decide +kernel
theorem dX5_takeWord_59 : decode cX5_takeWord 59 = .ok (.getfield 85, 3) := by decide +kernel
theorem dX5_takeWord_62 : decode cX5_takeWord 62 = .ok (.isub, 1) := by decide +kernel
theorem dX5_takeWord_63 : decode cX5_takeWord 63 = .ok (.putfield 92, 3) := by decide +kernel
theorem dX5_takeWord_66 : decode cX5_takeWord 66 = .ok (.aload_n 0, 1) := by decide +kernel
theorem dX5_takeWord_67 : decode cX5_takeWord 67 = .ok (.getfield 92, 3) := by decide +kernel
theorem dX5_takeWord_70 : decode cX5_takeWord 70 = .ok (.ifCond .gt 15, 3) := by decide +kernel
theorem dX5_takeWord_73 : decode cX5_takeWord 73 = .ok (.aload_n 0, 1) := by decide +kernel
theorem dX5_takeWord_74 : decode cX5_takeWord 74 = .ok (.iconst 1, 1) := by decide +kernel
theorem dX5_takeWord_75 : decode cX5_takeWord 75 = .ok (.aload_n 0, 1) := by decide +kernel
theorem dX5_takeWord_76 : decode cX5_takeWord 76 = .ok (.getfield 85, 3) := by decide +kernel
theorem dX5_takeWord_79 : decode cX5_takeWord 79 = .ok (.invokevirtual 95, 3) := by decide +kernel
theorem dX5_takeWord_82 : decode cX5_takeWord 82 = .ok (.ifCond .eq 7, 3) := by decide +kernel
theorem dX5_takeWord_85 : decode cX5_takeWord 85 = .ok (.iconst 1, 1) := by decide +kernel
theorem dX5_takeWord_86 : decode cX5_takeWord 86 = .ok (.goto 4, 3) := by decide +kernel
theorem dX5_takeWord_89 : decode cX5_takeWord 89 = .ok (.iconst 0, 1) := by decide +kernel
theorem dX5_takeWord_90 : decode cX5_takeWord 90 = .ok (.ireturn, 1) := by decide +kernel
set_option maxRecDepth 20000 in
theorem ggX5_wordIs_J0_length_8abf5 : GoodIn wsX5_wordIs wsJ0_length_8abf5 := goodIn_r _ [7, 8, 9, 10, 11, 6, 12, 13, 14] (by decide +kernel) (by decide +kernel)
set_option maxRecDepth 20000 in
theorem gX5_wordIs_J0_length_8abf5 : GoodIn wsX5_wordIs (wsV RX5 99 RJ0 yJ0_length_8abf5 wsJ0_length_8abf5) := goodIn_app (goodIn_of _ (by decide +kernel)) ggX5_wordIs_J0_length_8abf5
set_option maxRecDepth 20000 in
theorem ggX5_wordIs_X5_signAt : GoodIn wsX5_wordIs wsX5_signAt := goodIn_r _ [19, 20, 21, 59, 60, 61, 62, 63, 64, 65, 66, 67, 68, 69, 70, 71, 72] (by decide +kernel) (by decide +kernel)
set_option maxRecDepth 20000 in
theorem gX5_wordIs_X5_signAt : GoodIn wsX5_wordIs (wsV RX5 81 RX5 yX5_signAt wsX5_signAt) := goodIn_app (goodIn_of _ (by decide +kernel)) ggX5_wordIs_X5_signAt
set_option maxRecDepth 20000 in
theorem ggX5_wordIs_J0_charAt_5068e : GoodIn wsX5_wordIs wsJ0_charAt_5068e := goodIn_r _ [25, 8, 26, 27, 28, 6, 29, 13, 14, 30, 31, 32, 33, 34, 35, 36, 37, 38, 39, 40, 41, 42, 43, 44, 45, 46, 47, 48, 49, 50, 51, 52, 53, 54, 55, 56, 57, 58] (by decide +kernel) (by decide +kernel)
set_option maxRecDepth 20000 in
theorem gX5_wordIs_J0_charAt_5068e : GoodIn wsX5_wordIs (wsV RX5 103 RJ0 yJ0_charAt_5068e wsJ0_charAt_5068e) := goodIn_app (goodIn_of _ (by decide +kernel)) ggX5_wordIs_J0_charAt_5068e
theorem dX5_wordIs_0 : decode cX5_wordIs 0 = .ok (.aload_n 0, 1) := by decide +kernel
theorem dX5_wordIs_1 : decode cX5_wordIs 1 = .ok (.getfield 92, 3) := by decide +kernel
theorem dX5_wordIs_4 : decode cX5_wordIs 4 = .ok (.aload_n 1, 1) := by decide +kernel
theorem dX5_wordIs_5 : decode cX5_wordIs 5 = .ok (.invokevirtual 99, 3) := by decide +kernel
theorem dX5_wordIs_8 : decode cX5_wordIs 8 = .ok (.if_icmp .eq 5, 3) := by decide +kernel
theorem dX5_wordIs_11 : decode cX5_wordIs 11 = .ok (.iconst 0, 1) := by decide +kernel
theorem dX5_wordIs_12 : decode cX5_wordIs 12 = .ok (.ireturn, 1) := by decide +kernel
theorem dX5_wordIs_13 : decode cX5_wordIs 13 = .ok (.iconst 0, 1) := by decide +kernel
theorem dX5_wordIs_14 : decode cX5_wordIs 14 = .ok (.istore_n 2, 1) := by decide +kernel
theorem dX5_wordIs_15 : decode cX5_wordIs 15 = .ok (.iload_n 2, 1) := by decide +kernel
theorem dX5_wordIs_16 : decode cX5_wordIs 16 = .ok (.aload_n 1, 1) := by decide +kernel
theorem dX5_wordIs_17 : decode cX5_wordIs 17 = .ok (.invokevirtual 99, 3) := by decide +kernel
theorem dX5_wordIs_20 : decode cX5_wordIs 20 = .ok (.if_icmp .ge 29, 3) := by decide +kernel
theorem dX5_wordIs_23 : decode cX5_wordIs 23 = .ok (.aload_n 0, 1) := by decide +kernel
theorem dX5_wordIs_24 : decode cX5_wordIs 24 = .ok (.aload_n 0, 1) := by decide +kernel
theorem dX5_wordIs_25 : decode cX5_wordIs 25 = .ok (.getfield 85, 3) := by decide +kernel
theorem dX5_wordIs_28 : decode cX5_wordIs 28 = .ok (.iload_n 2, 1) := by decide +kernel
theorem dX5_wordIs_29 : decode cX5_wordIs 29 = .ok (.iadd, 1) := by decide +kernel
theorem dX5_wordIs_30 : decode cX5_wordIs 30 = .ok (.invokevirtual 81, 3) := by decide +kernel
theorem dX5_wordIs_33 : decode cX5_wordIs 33 = .ok (.aload_n 1, 1) := by decide +kernel
theorem dX5_wordIs_34 : decode cX5_wordIs 34 = .ok (.iload_n 2, 1) := by decide +kernel
theorem dX5_wordIs_35 : decode cX5_wordIs 35 = .ok (.invokevirtual 103, 3) := by decide +kernel
theorem dX5_wordIs_38 : decode cX5_wordIs 38 = .ok (.if_icmp .eq 5, 3) := by decide +kernel
theorem dX5_wordIs_41 : decode cX5_wordIs 41 = .ok (.iconst 0, 1) := by decide +kernel
theorem dX5_wordIs_42 : decode cX5_wordIs 42 = .ok (.ireturn, 1) := by decide +kernel
theorem dX5_wordIs_43 : decode cX5_wordIs 43 = .ok (.iinc 2 1, 3) := by decide +kernel
theorem dX5_wordIs_46 : decode cX5_wordIs 46 = .ok (.goto (-31), 3) := by decide +kernel
theorem dX5_wordIs_49 : decode cX5_wordIs 49 = .ok (.iconst 1, 1) := by decide +kernel
theorem dX5_wordIs_50 : decode cX5_wordIs 50 = .ok (.ireturn, 1) := by decide +kernel
set_option maxRecDepth 20000 in
theorem ggX5_takeNumber_X5_nextSign : GoodIn wsX5_takeNumber wsX5_nextSign := goodIn_r _ [13, 4, 1, 14, 15, 16, 12, 17, 18, 28, 29, 30, 31, 32, 33, 34, 35, 36, 37, 38, 39, 40, 41] (by decide +kernel) (by decide +kernel)
set_option maxRecDepth 20000 in
theorem gX5_takeNumber_X5_nextSign : GoodIn wsX5_takeNumber (wsV RX5 53 RX5 yX5_nextSign wsX5_nextSign) := goodIn_app (goodIn_of _ (by decide +kernel)) ggX5_takeNumber_X5_nextSign
set_option maxRecDepth 20000 in
theorem ggX5_takeNumber_X5_signAt : GoodIn wsX5_takeNumber wsX5_signAt := goodIn_r _ [17, 4, 18, 28, 29, 30, 31, 32, 33, 34, 35, 36, 37, 38, 39, 40, 41] (by decide +kernel) (by decide +kernel)
set_option maxRecDepth 20000 in
theorem gX5_takeNumber_X5_signAt : GoodIn wsX5_takeNumber (wsV RX5 81 RX5 yX5_signAt wsX5_signAt) := goodIn_app (goodIn_of _ (by decide +kernel)) ggX5_takeNumber_X5_signAt
set_option maxRecDepth 20000 in
theorem ggX5_takeNumber_X5_isDigit : GoodIn wsX5_takeNumber wsX5_isDigit := goodIn_r _ [21] (by decide +kernel) (by decide +kernel)
set_option maxRecDepth 20000 in
theorem gX5_takeNumber_X5_isDigit : GoodIn wsX5_takeNumber (va_wsS RX5 113 yX5_isDigit wsX5_isDigit) := goodIn_app (goodIn_of _ (by decide +kernel)) ggX5_takeNumber_X5_isDigit
set_option maxRecDepth 20000 in
theorem ggX5_takeNumber_X5_fail : GoodIn wsX5_takeNumber wsX5_fail := goodIn_r _ [25, 26, 27, 28, 29, 30, 31, 32, 33, 34, 35, 36, 37, 38, 39, 40, 41] (by decide +kernel) (by decide +kernel)
set_option maxRecDepth 20000 in
theorem gX5_takeNumber_X5_fail : GoodIn wsX5_takeNumber (wsV RX5 95 RX5 yX5_fail wsX5_fail) := goodIn_app (goodIn_of _ (by decide +kernel)) ggX5_takeNumber_X5_fail
theorem dX5_takeNumber_0 : decode cX5_takeNumber 0 = .ok (.aload_n 0, 1) := by decide +kernel
theorem dX5_takeNumber_1 : decode cX5_takeNumber 1 = .ok (.invokevirtual 53, 3) := by decide +kernel
theorem dX5_takeNumber_4 : decode cX5_takeNumber 4 = .ok (.pop, 1) := by decide +kernel
theorem dX5_takeNumber_5 : decode cX5_takeNumber 5 = .ok (.aload_n 0, 1) := by decide +kernel
theorem dX5_takeNumber_6 : decode cX5_takeNumber 6 = .ok (.aload_n 0, 1) := by decide +kernel
theorem dX5_takeNumber_7 : decode cX5_takeNumber 7 = .ok (.getfield 33, 3) := by decide +kernel
theorem dX5_takeNumber_10 : decode cX5_takeNumber 10 = .ok (.putfield 107, 3) := by decide +kernel
theorem dX5_takeNumber_13 : decode cX5_takeNumber 13 = .ok (.aload_n 0, 1) := by decide +kernel
theorem dX5_takeNumber_14 : decode cX5_takeNumber 14 = .ok (.iconst 0, 1) := by decide +kernel
theorem dX5_takeNumber_15 : decode cX5_takeNumber 15 = .ok (.putfield 110, 3) := by decide +kernel
theorem dX5_takeNumber_18 : decode cX5_takeNumber 18 = .ok (.iconst 0, 1) := by decide +kernel
theorem dX5_takeNumber_19 : decode cX5_takeNumber 19 = .ok (.istore_n 3, 1) := by decide +kernel
theorem dX5_takeNumber_20 : decode cX5_takeNumber 20 = .ok (.iload_n 3, 1) := by decide +kernel
theorem dX5_takeNumber_21 : decode cX5_takeNumber 21 = .ok (.aload_n 0, 1) := by decide +kernel
theorem dX5_takeNumber_22 : decode cX5_takeNumber 22 = .ok (.getfield 29, 3) := by decide +kernel
theorem dX5_takeNumber_25 : decode cX5_takeNumber 25 = .ok (.if_icmp .ge 62, 3) := by decide +kernel
theorem dX5_takeNumber_28 : decode cX5_takeNumber 28 = .ok (.aload_n 0, 1) := by decide +kernel
theorem dX5_takeNumber_29 : decode cX5_takeNumber 29 = .ok (.aload_n 0, 1) := by decide +kernel
theorem dX5_takeNumber_30 : decode cX5_takeNumber 30 = .ok (.getfield 33, 3) := by decide +kernel
theorem dX5_takeNumber_33 : decode cX5_takeNumber 33 = .ok (.invokevirtual 81, 3) := by decide +kernel
theorem dX5_takeNumber_36 : decode cX5_takeNumber 36 = .ok (.invokestatic 113, 3) := by decide +kernel
theorem dX5_takeNumber_39 : decode cX5_takeNumber 39 = .ok (.ifCond .eq 48, 3) := by decide +kernel
theorem dX5_takeNumber_42 : decode cX5_takeNumber 42 = .ok (.aload_n 0, 1) := by decide +kernel
theorem dX5_takeNumber_43 : decode cX5_takeNumber 43 = .ok (.aload_n 0, 1) := by decide +kernel
theorem dX5_takeNumber_44 : decode cX5_takeNumber 44 = .ok (.getfield 110, 3) := by decide +kernel
theorem dX5_takeNumber_47 : decode cX5_takeNumber 47 = .ok (.bipush 10, 2) := by decide +kernel
theorem dX5_takeNumber_49 : decode cX5_takeNumber 49 = .ok (.imul, 1) := by decide +kernel
theorem dX5_takeNumber_50 : decode cX5_takeNumber 50 = .ok (.aload_n 0, 1) := by decide +kernel
theorem dX5_takeNumber_51 : decode cX5_takeNumber 51 = .ok (.aload_n 0, 1) := by decide +kernel
theorem dX5_takeNumber_52 : decode cX5_takeNumber 52 = .ok (.getfield 33, 3) := by decide +kernel
theorem dX5_takeNumber_55 : decode cX5_takeNumber 55 = .ok (.invokevirtual 81, 3) := by decide +kernel
theorem dX5_takeNumber_58 : decode cX5_takeNumber 58 = .ok (.iadd, 1) := by decide +kernel
theorem dX5_takeNumber_59 : decode cX5_takeNumber 59 = .ok (.bipush 48, 2) := by decide +kernel
theorem dX5_takeNumber_61 : decode cX5_takeNumber 61 = .ok (.isub, 1) := by decide +kernel
theorem dX5_takeNumber_62 : decode cX5_takeNumber 62 = .ok (.sipush 1000, 3) := by decide +kernel
theorem dX5_takeNumber_65 : decode cX5_takeNumber 65 = .ok (.invokestatic 116, 3) := by decide +kernel
theorem dX5_takeNumber_68 : decode cX5_takeNumber 68 = .ok (.putfield 110, 3) := by decide +kernel
theorem dX5_takeNumber_71 : decode cX5_takeNumber 71 = .ok (.aload_n 0, 1) := by decide +kernel
theorem dX5_takeNumber_72 : decode cX5_takeNumber 72 = .ok (.dup, 1) := by decide +kernel
theorem dX5_takeNumber_73 : decode cX5_takeNumber 73 = .ok (.getfield 33, 3) := by decide +kernel
theorem dX5_takeNumber_76 : decode cX5_takeNumber 76 = .ok (.iconst 1, 1) := by decide +kernel
theorem dX5_takeNumber_77 : decode cX5_takeNumber 77 = .ok (.iadd, 1) := by decide +kernel
theorem dX5_takeNumber_78 : decode cX5_takeNumber 78 = .ok (.putfield 33, 3) := by decide +kernel
theorem dX5_takeNumber_81 : decode cX5_takeNumber 81 = .ok (.iinc 3 1, 3) := by decide +kernel
theorem dX5_takeNumber_84 : decode cX5_takeNumber 84 = .ok (.goto (-64), 3) := by decide +kernel
theorem dX5_takeNumber_87 : decode cX5_takeNumber 87 = .ok (.aload_n 0, 1) := by decide +kernel
theorem dX5_takeNumber_88 : decode cX5_takeNumber 88 = .ok (.getfield 33, 3) := by decide +kernel
theorem dX5_takeNumber_91 : decode cX5_takeNumber 91 = .ok (.aload_n 0, 1) := by decide +kernel
theorem dX5_takeNumber_92 : decode cX5_takeNumber 92 = .ok (.getfield 107, 3) := by decide +kernel
theorem dX5_takeNumber_95 : decode cX5_takeNumber 95 = .ok (.if_icmp .ne 13, 3) := by decide +kernel
theorem dX5_takeNumber_98 : decode cX5_takeNumber 98 = .ok (.aload_n 0, 1) := by decide +kernel
theorem dX5_takeNumber_99 : decode cX5_takeNumber 99 = .ok (.iconst 1, 1) := by decide +kernel
theorem dX5_takeNumber_100 : decode cX5_takeNumber 100 = .ok (.aload_n 0, 1) := by decide +kernel
theorem dX5_takeNumber_101 : decode cX5_takeNumber 101 = .ok (.getfield 33, 3) := by decide +kernel
theorem dX5_takeNumber_104 : decode cX5_takeNumber 104 = .ok (.invokevirtual 95, 3) := by decide +kernel
theorem dX5_takeNumber_107 : decode cX5_takeNumber 107 = .ok (.ireturn, 1) := by decide +kernel
theorem dX5_takeNumber_108 : decode cX5_takeNumber 108 = .ok (.aload_n 0, 1) := by decide +kernel
theorem dX5_takeNumber_109 : decode cX5_takeNumber 109 = .ok (.getfield 110, 3) := by decide +kernel
theorem dX5_takeNumber_112 : decode cX5_takeNumber 112 = .ok (.iload_n 1, 1) := by decide +kernel
theorem dX5_takeNumber_113 : decode cX5_takeNumber 113 = .ok (.if_icmp .lt 11, 3) := by decide +kernel
theorem dX5_takeNumber_116 : decode cX5_takeNumber 116 = .ok (.aload_n 0, 1) := by decide +kernel
theorem dX5_takeNumber_117 : decode cX5_takeNumber 117 = .ok (.getfield 110, 3) := by decide +kernel
theorem dX5_takeNumber_120 : decode cX5_takeNumber 120 = .ok (.iload_n 2, 1) := by decide +kernel
theorem dX5_takeNumber_121 : decode cX5_takeNumber 121 = .ok (.if_icmp .le 15, 3) := by decide +kernel
theorem dX5_takeNumber_124 : decode cX5_takeNumber 124 = .ok (.aload_n 0, 1) := by decide +kernel
theorem dX5_takeNumber_125 : decode cX5_takeNumber 125 = .ok (.iconst 2, 1) := by decide +kernel
theorem dX5_takeNumber_126 : decode cX5_takeNumber 126 = .ok (.aload_n 0, 1) := by decide +kernel
theorem dX5_takeNumber_127 : decode cX5_takeNumber 127 = .ok (.getfield 107, 3) := by decide +kernel
theorem dX5_takeNumber_130 : decode cX5_takeNumber 130 = .ok (.invokevirtual 95, 3) := by decide +kernel
theorem dX5_takeNumber_133 : decode cX5_takeNumber 133 = .ok (.ifCond .eq 7, 3) := by decide +kernel
theorem dX5_takeNumber_136 : decode cX5_takeNumber 136 = .ok (.iconst 1, 1) := by decide +kernel
theorem dX5_takeNumber_137 : decode cX5_takeNumber 137 = .ok (.goto 4, 3) := by decide +kernel
theorem dX5_takeNumber_140 : decode cX5_takeNumber 140 = .ok (.iconst 0, 1) := by decide +kernel
theorem dX5_takeNumber_141 : decode cX5_takeNumber 141 = .ok (.ireturn, 1) := by decide +kernel
set_option maxRecDepth 20000 in
theorem ggX5_takeName_X5_takeWord : GoodIn wsX5_takeName wsX5_takeWord := goodIn_r _ [7, 8, 2, 9, 1, 10, 11, 12, 6, 13, 14, 15, 16, 17, 18, 19, 20, 21, 22, 23, 24, 25, 26, 27, 28, 29, 30, 31, 32, 33, 34, 35, 36, 37, 38, 39, 40, 41] (by decide +kernel) (by decide +kernel)
set_option maxRecDepth 20000 in
theorem gX5_takeName_X5_takeWord : GoodIn wsX5_takeName (wsV RX5 122 RX5 yX5_takeWord wsX5_takeWord) := goodIn_app (goodIn_of _ (by decide +kernel)) ggX5_takeName_X5_takeWord
