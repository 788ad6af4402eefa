set_option maxRecDepth 20000 in
theorem ggX8_init_X6_init : GoodIn wsX8_init wsX6_init := goodIn_r _ [29, 30, 2, 3, 31, 32, 33, 34, 35, 36, 37, 38, 39, 40, 41, 42, 24, 43, 44, 45, 46, 47, 48, 49, 50, 51, 52, 53, 54, 55, 56, 57, 58, 59, 60, 61, 62, 162, 163, 164, 165, 166, 167, 116, 117, 118, 119, 120, 168, 169, 170, 171, 172, 173, 174, 175, 176, 177, 178] (by decide +kernel) (by decide +kernel)
set_option maxRecDepth 20000 in
theorem gX8_init_X6_init_n9 : GoodIn wsX8_init (wsX6_init) := ggX8_init_X6_init
set_option maxRecDepth 20000 in
theorem ggX8_init_X3_init : GoodIn wsX8_init wsX3_init := goodIn_r _ [64, 65, 2, 3, 66, 67, 131, 132, 133] (by decide +kernel) (by decide +kernel)
set_option maxRecDepth 20000 in
theorem gX8_init_X3_init_n18 : GoodIn wsX8_init (wsX3_init) := ggX8_init_X3_init
set_option maxRecDepth 20000 in
theorem ggX8_init_X7_init : GoodIn wsX8_init wsX7_init := goodIn_r _ [69, 70, 2, 3, 24, 71, 72, 73, 134, 135, 136, 137] (by decide +kernel) (by decide +kernel)
set_option maxRecDepth 20000 in
theorem gX8_init_X7_init_n25 : GoodIn wsX8_init (wsX7_init) := ggX8_init_X7_init
set_option maxRecDepth 20000 in
theorem ggX8_init_X0_init : GoodIn wsX8_init wsX0_init := goodIn_r _ [75, 76, 2, 3, 24, 77, 78, 79, 80, 81, 82, 138, 139, 140, 141, 142, 143, 144, 145, 146, 147] (by decide +kernel) (by decide +kernel)
set_option maxRecDepth 20000 in
theorem gX8_init_X0_init_n32 : GoodIn wsX8_init (wsX0_init) := ggX8_init_X0_init
set_option maxRecDepth 20000 in
theorem ggX8_init_X5_init : GoodIn wsX8_init wsX5_init := goodIn_r _ [84, 85, 2, 3, 86, 5, 6, 87, 88, 13, 14, 89, 24, 90, 28, 29, 30, 31, 32, 33, 34, 35, 36, 37, 38, 39, 40, 41, 42, 43, 44, 45, 46, 47, 48, 49, 50, 51, 52, 53, 54, 55, 56, 57, 58, 59, 60, 61, 62, 68, 69, 70, 71, 72, 73, 116, 117, 118, 119, 120, 148, 149, 150, 151, 152, 153, 154, 155, 156, 157, 158, 159, 160, 161, 134, 135, 136, 137, 162, 163, 164, 165, 166, 167, 168, 169, 170, 171, 172, 173, 174, 175, 176, 177, 178] (by decide +kernel) (by decide +kernel)
set_option maxRecDepth 20000 in
theorem gX8_init_X5_init_n39 : GoodIn wsX8_init (wsX5_init) := ggX8_init_X5_init
set_option maxRecDepth 20000 in
theorem ggX8_init_X6_beginSea : GoodIn wsX8_init wsX6_beginSea := goodIn_r _ [94, 34, 38, 42, 43, 44, 95, 96, 97, 33, 98, 99, 100, 101, 49, 50, 51, 102, 103, 104, 37, 105, 106, 107, 108, 109, 110, 41, 111, 112, 113, 114, 115, 116, 117, 118, 119, 120, 162, 163, 164, 165, 166, 167, 168, 169, 170, 171, 172, 173, 174, 175, 176, 177, 178] (by decide +kernel) (by decide +kernel)
set_option maxRecDepth 20000 in
theorem gX8_init_X6_beginSea : GoodIn wsX8_init (wsV RX8 56 RX6 yX6_beginSea wsX6_beginSea) := goodIn_app (goodIn_of _ (by decide +kernel)) ggX8_init_X6_beginSea
theorem dX8_init_0 : decode cX8_init 0 = .ok (.aload_n 0, 1) := by decide +kernel
theorem dX8_init_1 : decode cX8_init 1 = .ok (.invokespecial 1, 3) := by decide +kernel
theorem dX8_init_4 : decode cX8_init 4 = .ok (.aload_n 0, 1) := by decide +kernel
theorem dX8_init_5 : decode cX8_init 5 = .ok (.new 7, 3) := by decide +kernel
theorem dX8_init_8 : decode cX8_init 8 = .ok (.dup, 1) := by decide +kernel
theorem dX8_init_9 : decode cX8_init 9 = .ok (.invokespecial 9, 3) := by decide +kernel
theorem dX8_init_12 : decode cX8_init 12 = .ok (.putfield 10, 3) := by decide +kernel
theorem dX8_init_15 : decode cX8_init 15 = .ok (.aload_n 0, 1) := by decide +kernel
theorem dX8_init_16 : decode cX8_init 16 = .ok (.new 16, 3) := by decide +kernel
theorem dX8_init_19 : decode cX8_init 19 = .ok (.dup, 1) := by decide +kernel
theorem dX8_init_20 : decode cX8_init 20 = .ok (.invokespecial 18, 3) := by decide +kernel
theorem dX8_init_23 : decode cX8_init 23 = .ok (.putfield 19, 3) := by decide +kernel
theorem dX8_init_26 : decode cX8_init 26 = .ok (.aload_n 0, 1) := by decide +kernel
theorem dX8_init_27 : decode cX8_init 27 = .ok (.new 23, 3) := by decide +kernel
theorem dX8_init_30 : decode cX8_init 30 = .ok (.dup, 1) := by decide +kernel
theorem dX8_init_31 : decode cX8_init 31 = .ok (.invokespecial 25, 3) := by decide +kernel
theorem dX8_init_34 : decode cX8_init 34 = .ok (.putfield 26, 3) := by decide +kernel
theorem dX8_init_37 : decode cX8_init 37 = .ok (.aload_n 0, 1) := by decide +kernel
theorem dX8_init_38 : decode cX8_init 38 = .ok (.new 30, 3) := by decide +kernel
theorem dX8_init_41 : decode cX8_init 41 = .ok (.dup, 1) := by decide +kernel
theorem dX8_init_42 : decode cX8_init 42 = .ok (.invokespecial 32, 3) := by decide +kernel
theorem dX8_init_45 : decode cX8_init 45 = .ok (.putfield 33, 3) := by decide +kernel
theorem dX8_init_48 : decode cX8_init 48 = .ok (.aload_n 0, 1) := by decide +kernel
theorem dX8_init_49 : decode cX8_init 49 = .ok (.new 37, 3) := by decide +kernel
theorem dX8_init_52 : decode cX8_init 52 = .ok (.dup, 1) := by decide +kernel
theorem dX8_init_53 : decode cX8_init 53 = .ok (.invokespecial 39, 3) := by decide +kernel
theorem dX8_init_56 : decode cX8_init 56 = .ok (.putfield 40, 3) := by decide +kernel
theorem dX8_init_59 : decode cX8_init 59 = .ok (.aload_n 0, 1) := by decide +kernel
theorem dX8_init_60 : decode cX8_init 60 = .ok (.bipush 12, 2) := by decide +kernel
theorem dX8_init_62 : decode cX8_init 62 = .ok (.newarray .int, 2) := by decide +kernel
theorem dX8_init_64 : decode cX8_init 64 = .ok (.putfield 44, 3) := by decide +kernel
theorem dX8_init_67 : decode cX8_init 67 = .ok (.aload_n 0, 1) := by decide +kernel
theorem dX8_init_68 : decode cX8_init 68 = .ok (.iconst 2, 1) := by decide +kernel
theorem dX8_init_69 : decode cX8_init 69 = .ok (.anewarray 7, 3) := by decide +kernel
theorem dX8_init_72 : decode cX8_init 72 = .ok (.putfield 48, 3) := by decide +kernel
theorem dX8_init_75 : decode cX8_init 75 = .ok (.aload_n 0, 1) := by decide +kernel
theorem dX8_init_76 : decode cX8_init 76 = .ok (.iconst (-1), 1) := by decide +kernel
theorem dX8_init_77 : decode cX8_init 77 = .ok (.putfield 52, 3) := by decide +kernel
theorem dX8_init_80 : decode cX8_init 80 = .ok (.aload_n 0, 1) := by decide +kernel
theorem dX8_init_81 : decode cX8_init 81 = .ok (.getfield 10, 3) := by decide +kernel
theorem dX8_init_84 : decode cX8_init 84 = .ok (.iconst 3, 1) := by decide +kernel
theorem dX8_init_85 : decode cX8_init 85 = .ok (.iconst 3, 1) := by decide +kernel
theorem dX8_init_86 : decode cX8_init 86 = .ok (.invokevirtual 56, 3) := by decide +kernel
theorem dX8_init_89 : decode cX8_init 89 = .ok (.return_, 1) := by decide +kernel
set_option maxRecDepth 20000 in
theorem ggX8_append_X8_byteOf : GoodIn wsX8_append wsX8_byteOf := goodIn_r _ [5, 6] (by decide +kernel) (by decide +kernel)
set_option maxRecDepth 20000 in
theorem gX8_append_X8_byteOf : GoodIn wsX8_append (va_wsS RX8 60 yX8_byteOf wsX8_byteOf) := goodIn_app (goodIn_of _ (by decide +kernel)) ggX8_append_X8_byteOf
set_option maxRecDepth 20000 in
theorem ggX8_append_X5_addByte : GoodIn wsX8_append wsX5_addByte := goodIn_r _ [11, 12, 13, 24, 25, 26, 27, 28, 29, 30, 31, 32, 33, 34, 35, 36, 37] (by decide +kernel) (by decide +kernel)
set_option maxRecDepth 20000 in
theorem gX8_append_X5_addByte : GoodIn wsX8_append (wsV RX8 67 RX5 yX5_addByte wsX5_addByte) := goodIn_app (goodIn_of _ (by decide +kernel)) ggX8_append_X5_addByte
theorem dX8_append_0 : decode cX8_append 0 = .ok (.iconst 0, 1) := by decide +kernel
theorem dX8_append_1 : decode cX8_append 1 = .ok (.istore_n 3, 1) := by decide +kernel
theorem dX8_append_2 : decode cX8_append 2 = .ok (.bipush 56, 2) := by decide +kernel
theorem dX8_append_4 : decode cX8_append 4 = .ok (.istore 4, 2) := by decide +kernel
theorem dX8_append_6 : decode cX8_append 6 = .ok (.iload 4, 2) := by decide +kernel
theorem dX8_append_8 : decode cX8_append 8 = .ok (.ifCond .lt 21, 3) := by decide +kernel
theorem dX8_append_11 : decode cX8_append 11 = .ok (.lload_n 1, 1) := by decide +kernel
theorem dX8_append_12 : decode cX8_append 12 = .ok (.iload 4, 2) := by decide +kernel
theorem dX8_append_14 : decode cX8_append 14 = .ok (.invokestatic 60, 3) := by decide +kernel
theorem dX8_append_17 : decode cX8_append 17 = .ok (.ifCond .eq 6, 3) := by decide +kernel
theorem dX8_append_20 : decode cX8_append 20 = .ok (.iinc 3 1, 3) := by decide +kernel
theorem dX8_append_23 : decode cX8_append 23 = .ok (.iinc 4 (-8), 3) := by decide +kernel
theorem dX8_append_26 : decode cX8_append 26 = .ok (.goto (-20), 3) := by decide +kernel
theorem dX8_append_29 : decode cX8_append 29 = .ok (.aload_n 0, 1) := by decide +kernel
theorem dX8_append_30 : decode cX8_append 30 = .ok (.getfield 40, 3) := by decide +kernel
theorem dX8_append_33 : decode cX8_append 33 = .ok (.getfield 64, 3) := by decide +kernel
theorem dX8_append_36 : decode cX8_append 36 = .ok (.iload_n 3, 1) := by decide +kernel
theorem dX8_append_37 : decode cX8_append 37 = .ok (.iadd, 1) := by decide +kernel
theorem dX8_append_38 : decode cX8_append 38 = .ok (.sipush 500, 3) := by decide +kernel
theorem dX8_append_41 : decode cX8_append 41 = .ok (.if_icmp .le 6, 3) := by decide +kernel
theorem dX8_append_44 : decode cX8_append 44 = .ok (.bipush (-2), 2) := by decide +kernel
theorem dX8_append_46 : decode cX8_append 46 = .ok (.ireturn, 1) := by decide +kernel
theorem dX8_append_47 : decode cX8_append 47 = .ok (.bipush 56, 2) := by decide +kernel
theorem dX8_append_49 : decode cX8_append 49 = .ok (.istore 4, 2) := by decide +kernel
theorem dX8_append_51 : decode cX8_append 51 = .ok (.iload 4, 2) := by decide +kernel
theorem dX8_append_53 : decode cX8_append 53 = .ok (.ifCond .lt 31, 3) := by decide +kernel
theorem dX8_append_56 : decode cX8_append 56 = .ok (.lload_n 1, 1) := by decide +kernel
theorem dX8_append_57 : decode cX8_append 57 = .ok (.iload 4, 2) := by decide +kernel
theorem dX8_append_59 : decode cX8_append 59 = .ok (.invokestatic 60, 3) := by decide +kernel
theorem dX8_append_62 : decode cX8_append 62 = .ok (.ifCond .eq 16, 3) := by decide +kernel
theorem dX8_append_65 : decode cX8_append 65 = .ok (.aload_n 0, 1) := by decide +kernel
theorem dX8_append_66 : decode cX8_append 66 = .ok (.getfield 40, 3) := by decide +kernel
theorem dX8_append_69 : decode cX8_append 69 = .ok (.lload_n 1, 1) := by decide +kernel
theorem dX8_append_70 : decode cX8_append 70 = .ok (.iload 4, 2) := by decide +kernel
theorem dX8_append_72 : decode cX8_append 72 = .ok (.invokestatic 60, 3) := by decide +kernel
theorem dX8_append_75 : decode cX8_append 75 = .ok (.invokevirtual 67, 3) := by decide +kernel
theorem dX8_append_78 : decode cX8_append 78 = .ok (.iinc 4 (-8), 3) := by decide +kernel
theorem dX8_append_81 : decode cX8_append 81 = .ok (.goto (-30), 3) := by decide +kernel
theorem dX8_append_84 : decode cX8_append 84 = .ok (.aload_n 0, 1) := by decide +kernel
theorem dX8_append_85 : decode cX8_append 85 = .ok (.getfield 40, 3) := by decide +kernel
theorem dX8_append_88 : decode cX8_append 88 = .ok (.getfield 64, 3) := by decide +kernel
theorem dX8_append_91 : decode cX8_append 91 = .ok (.ireturn, 1) := by decide +kernel
set_option maxRecDepth 20000 in
theorem ggX8_load_X5_readText : GoodIn wsX8_load wsX5_readText := goodIn_r _ [10, 11, 12, 13, 14, 15, 16, 17, 18, 19, 9, 20, 21, 22, 23, 24, 25, 26, 27, 28, 29, 30, 31, 32, 33, 34, 35, 36, 37, 38, 39, 40, 41, 42, 43, 44, 45, 46, 47, 48, 49, 50, 51, 52, 53, 54, 55, 56, 57, 58, 59, 60, 61, 62, 63, 64, 65, 66, 67, 68, 69, 70, 71, 72, 73, 74, 75, 76, 77, 78, 79, 80, 81, 82, 83, 84, 85, 86, 87, 88, 89, 90, 91, 92, 93, 94, 95, 96, 97, 98, 99, 100, 101, 102, 103, 104, 105, 106, 107, 108, 109, 110, 111, 112, 113, 114, 115, 116, 117, 118, 119, 120, 121, 122, 123, 124, 125, 126, 127, 128, 129, 130, 131, 132, 133, 134, 135, 136, 137, 138, 139, 140, 141, 142, 143, 144, 145, 146, 147, 148, 149, 150, 151, 152, 153, 154, 155, 156, 157, 158, 159, 160, 161, 162, 163, 164, 165, 166, 167, 168, 169, 170, 171, 172, 173, 174, 175, 176, 177, 178, 179, 180, 181, 182, 183, 184, 185, 186, 187, 188, 189, 190, 191, 192, 193, 194, 195, 196, 197, 198, 199, 200, 201, 202, 203, 204, 205, 206, 207, 208, 209, 210, 211, 212, 213, 214, 215, 216, 217, 218, 219, 220, 221, 222, 223, 224, 225, 226, 227, 228, 229, 230, 231, 232, 233, 234, 235, 236, 237, 238, 239, 240, 241, 242, 243, 244, 245, 246, 247, 248, 249, 250, 251, 252, 253, 254, 255, 256, 257, 258, 259, 260, 261, 262, 263, 264, 265, 266, 267, 268, 269, 270, 271, 272, 273, 274, 275, 276, 277, 278, 279, 280, 281, 282, 283, 284, 285, 286, 287, 288, 289, 290, 291, 292, 293, 294, 295, 296, 297, 298, 299, 300, 301, 302, 303, 304, 305, 306, 307, 308, 309, 310, 311, 312, 313, 314, 315, 316, 317, 318, 319, 320, 321, 322, 323, 324, 325, 326, 327, 328, 329, 330, 331, 332, 333, 334, 335, 336, 337, 338, 339, 340, 341, 342, 343, 344, 345, 346, 347, 348, 349, 350, 351, 352, 353, 354, 355, 356, 357, 358, 359, 360, 361, 394, 395, 396, 397, 398, 399, 400, 401, 402, 403, 404, 405, 406, 407, 408, 409, 410, 411, 412, 419, 420, 421, 422, 423, 424, 413, 414, 415, 416, 417, 418, 425, 426, 427, 428, 429, 430, 431, 432, 433] (by decide +kernel) (by decide +kernel)
set_option maxRecDepth 20000 in
theorem gX8_load_X5_readText : GoodIn wsX8_load (wsV RX8 71 RX5 yX5_readText wsX5_readText) := goodIn_app (goodIn_of _ (by decide +kernel)) ggX8_load_X5_readText
set_option maxRecDepth 20000 in
theorem ggX8_load_X6_copyFrom : GoodIn wsX8_load wsX6_copyFrom := goodIn_r _ [365, 115, 116, 117, 118, 119, 366, 367, 368, 123, 369, 125, 126, 127, 128, 129, 130, 370, 371, 372, 134, 373, 136, 137, 210, 228, 187, 192, 374, 375, 376, 141, 377, 143, 144, 145, 146, 357, 408, 409, 410, 411, 412, 419, 420, 421, 422, 423, 424, 413, 414, 415, 416, 417, 418, 425, 426, 427, 428, 429] (by decide +kernel) (by decide +kernel)
set_option maxRecDepth 20000 in
theorem gX8_load_X6_copyFrom : GoodIn wsX8_load (wsV RX8 90 RX6 yX6_copyFrom wsX6_copyFrom) := goodIn_app (goodIn_of _ (by decide +kernel)) ggX8_load_X6_copyFrom
set_option maxRecDepth 20000 in
theorem ggX8_load_X3_forget : GoodIn wsX8_load wsX3_forget := goodIn_r _ [382, 383, 434, 435, 436] (by decide +kernel) (by decide +kernel)
set_option maxRecDepth 20000 in
theorem gX8_load_X3_forget : GoodIn wsX8_load (wsV RX8 94 RX3 yX3_forget wsX3_forget) := goodIn_app (goodIn_of _ (by decide +kernel)) ggX8_load_X3_forget
theorem dX8_load_0 : decode cX8_load 0 = .ok (.aload_n 0, 1) := by decide +kernel
theorem dX8_load_1 : decode cX8_load 1 = .ok (.getfield 40, 3) := by decide +kernel
theorem dX8_load_4 : decode cX8_load 4 = .ok (.invokevirtual 71, 3) := by decide +kernel
theorem dX8_load_7 : decode cX8_load 7 = .ok (.istore_n 1, 1) := by decide +kernel
theorem dX8_load_8 : decode cX8_load 8 = .ok (.aload_n 0, 1) := by decide +kernel
theorem dX8_load_9 : decode cX8_load 9 = .ok (.getfield 40, 3) := by decide +kernel
theorem dX8_load_12 : decode cX8_load 12 = .ok (.iconst 0, 1) := by decide +kernel
theorem dX8_load_13 : decode cX8_load 13 = .ok (.putfield 64, 3) := by decide +kernel
theorem dX8_load_16 : decode cX8_load 16 = .ok (.aload_n 0, 1) := by decide +kernel
theorem dX8_load_17 : decode cX8_load 17 = .ok (.iload_n 1, 1) := by decide +kernel
theorem dX8_load_18 : decode cX8_load 18 = .ok (.ifCond .eq 7, 3) := by decide +kernel
theorem dX8_load_21 : decode cX8_load 21 = .ok (.iconst 0, 1) := by decide +kernel
theorem dX8_load_22 : decode cX8_load 22 = .ok (.goto 10, 3) := by decide +kernel
theorem dX8_load_25 : decode cX8_load 25 = .ok (.aload_n 0, 1) := by decide +kernel
theorem dX8_load_26 : decode cX8_load 26 = .ok (.getfield 40, 3) := by decide +kernel
theorem dX8_load_29 : decode cX8_load 29 = .ok (.getfield 75, 3) := by decide +kernel
theorem dX8_load_32 : decode cX8_load 32 = .ok (.putfield 78, 3) := by decide +kernel
theorem dX8_load_35 : decode cX8_load 35 = .ok (.aload_n 0, 1) := by decide +kernel
theorem dX8_load_36 : decode cX8_load 36 = .ok (.iload_n 1, 1) := by decide +kernel
theorem dX8_load_37 : decode cX8_load 37 = .ok (.ifCond .eq 7, 3) := by decide +kernel
theorem dX8_load_40 : decode cX8_load 40 = .ok (.iconst (-1), 1) := by decide +kernel
theorem dX8_load_41 : decode cX8_load 41 = .ok (.goto 10, 3) := by decide +kernel
theorem dX8_load_44 : decode cX8_load 44 = .ok (.aload_n 0, 1) := by decide +kernel
theorem dX8_load_45 : decode cX8_load 45 = .ok (.getfield 40, 3) := by decide +kernel
theorem dX8_load_48 : decode cX8_load 48 = .ok (.getfield 81, 3) := by decide +kernel
theorem dX8_load_51 : decode cX8_load 51 = .ok (.putfield 52, 3) := by decide +kernel
theorem dX8_load_54 : decode cX8_load 54 = .ok (.iload_n 1, 1) := by decide +kernel
theorem dX8_load_55 : decode cX8_load 55 = .ok (.ifCond .ne 14, 3) := by decide +kernel
theorem dX8_load_58 : decode cX8_load 58 = .ok (.bipush (-100), 2) := by decide +kernel
theorem dX8_load_60 : decode cX8_load 60 = .ok (.aload_n 0, 1) := by decide +kernel
theorem dX8_load_61 : decode cX8_load 61 = .ok (.getfield 40, 3) := by decide +kernel
theorem dX8_load_64 : decode cX8_load 64 = .ok (.getfield 84, 3) := by decide +kernel
theorem dX8_load_67 : decode cX8_load 67 = .ok (.isub, 1) := by decide +kernel
theorem dX8_load_68 : decode cX8_load 68 = .ok (.ireturn, 1) := by decide +kernel
theorem dX8_load_69 : decode cX8_load 69 = .ok (.aload_n 0, 1) := by decide +kernel
theorem dX8_load_70 : decode cX8_load 70 = .ok (.getfield 10, 3) := by decide +kernel
theorem dX8_load_73 : decode cX8_load 73 = .ok (.aload_n 0, 1) := by decide +kernel
theorem dX8_load_74 : decode cX8_load 74 = .ok (.getfield 40, 3) := by decide +kernel
theorem dX8_load_77 : decode cX8_load 77 = .ok (.getfield 87, 3) := by decide +kernel
theorem dX8_load_80 : decode cX8_load 80 = .ok (.invokevirtual 90, 3) := by decide +kernel
theorem dX8_load_83 : decode cX8_load 83 = .ok (.aload_n 0, 1) := by decide +kernel
theorem dX8_load_84 : decode cX8_load 84 = .ok (.getfield 19, 3) := by decide +kernel
theorem dX8_load_87 : decode cX8_load 87 = .ok (.invokevirtual 94, 3) := by decide +kernel
theorem dX8_load_90 : decode cX8_load 90 = .ok (.aload_n 0, 1) := by decide +kernel
theorem dX8_load_91 : decode cX8_load 91 = .ok (.getfield 10, 3) := by decide +kernel
theorem dX8_load_94 : decode cX8_load 94 = .ok (.getfield 97, 3) := by decide +kernel
theorem dX8_load_97 : decode cX8_load 97 = .ok (.getfield 101, 3) := by decide +kernel
theorem dX8_load_100 : decode cX8_load 100 = .ok (.ireturn, 1) := by decide +kernel
theorem dX8_loadError_0 : decode cX8_loadError 0 = .ok (.aload_n 0, 1) := by decide +kernel
theorem dX8_loadError_1 : decode cX8_loadError 1 = .ok (.getfield 78, 3) := by decide +kernel
theorem dX8_loadError_4 : decode cX8_loadError 4 = .ok (.ireturn, 1) := by decide +kernel
theorem dX8_loadStatement_0 : decode cX8_loadStatement 0 = .ok (.aload_n 0, 1) := by decide +kernel
theorem dX8_loadStatement_1 : decode cX8_loadStatement 1 = .ok (.getfield 52, 3) := by decide +kernel
theorem dX8_loadStatement_4 : decode cX8_loadStatement 4 = .ok (.ireturn, 1) := by decide +kernel
set_option maxRecDepth 20000 in
theorem ggX8_size_X1_landCells : GoodIn wsX8_size wsX1_landCells := goodIn_r _ [9, 10, 44, 45, 46, 47, 48, 49] (by decide +kernel) (by decide +kernel)
set_option maxRecDepth 20000 in
theorem gX8_size_X1_landCells : GoodIn wsX8_size (wsV RX8 118 RX1 yX1_landCells wsX1_landCells) := goodIn_app (goodIn_of _ (by decide +kernel)) ggX8_size_X1_landCells
set_option maxRecDepth 20000 in
theorem ggX8_size_X2_placedNames : GoodIn wsX8_size wsX2_placedNames := goodIn_r _ [15, 16, 17, 18, 19, 14, 20, 21, 50, 51, 52, 53, 54, 55] (by decide +kernel) (by decide +kernel)
set_option maxRecDepth 20000 in
theorem gX8_size_X2_placedNames : GoodIn wsX8_size (wsV RX8 125 RX2 yX2_placedNames wsX2_placedNames) := goodIn_app (goodIn_of _ (by decide +kernel)) ggX8_size_X2_placedNames
set_option maxRecDepth 20000 in
theorem ggX8_size_J6_bitCount_0f7a4 : GoodIn wsX8_size wsJ6_bitCount_0f7a4 := goodIn_r _ [25, 26, 27, 28] (by decide +kernel) (by decide +kernel)
set_option maxRecDepth 20000 in
theorem gX8_size_J6_bitCount_0f7a4 : GoodIn wsX8_size (va_wsS RX8 128 yJ6_bitCount_0f7a4 wsJ6_bitCount_0f7a4) := goodIn_app (goodIn_of _ (by decide +kernel)) ggX8_size_J6_bitCount_0f7a4
theorem dX8_size_0 : decode cX8_size 0 = .ok (.iload_n 1, 1) := by decide +kernel
theorem dX8_size_1 : decode cX8_size 1 = .ok (.tableswitch 209 0 11 #[63, 74, 85, 96, 107, 118, 132, 157, 168, 179, 190, 201], 63) := by decide +kernel
theorem dX8_size_64 : decode cX8_size 64 = .ok (.aload_n 0, 1) := by decide +kernel
theorem dX8_size_65 : decode cX8_size 65 = .ok (.getfield 10, 3) := by decide +kernel
theorem dX8_size_68 : decode cX8_size 68 = .ok (.getfield 106, 3) := by decide +kernel
theorem dX8_size_71 : decode cX8_size 71 = .ok (.getfield 110, 3) := by decide +kernel
theorem dX8_size_74 : decode cX8_size 74 = .ok (.ireturn, 1) := by decide +kernel
theorem dX8_size_75 : decode cX8_size 75 = .ok (.aload_n 0, 1) := by decide +kernel
theorem dX8_size_76 : decode cX8_size 76 = .ok (.getfield 10, 3) := by decide +kernel
theorem dX8_size_79 : decode cX8_size 79 = .ok (.getfield 106, 3) := by decide +kernel
theorem dX8_size_82 : decode cX8_size 82 = .ok (.getfield 115, 3) := by decide +kernel
theorem dX8_size_85 : decode cX8_size 85 = .ok (.ireturn, 1) := by decide +kernel
theorem dX8_size_86 : decode cX8_size 86 = .ok (.aload_n 0, 1) := by decide +kernel
theorem dX8_size_87 : decode cX8_size 87 = .ok (.getfield 10, 3) := by decide +kernel
theorem dX8_size_90 : decode cX8_size 90 = .ok (.getfield 106, 3) := by decide +kernel
theorem dX8_size_93 : decode cX8_size 93 = .ok (.invokevirtual 118, 3) := by decide +kernel
theorem dX8_size_96 : decode cX8_size 96 = .ok (.ireturn, 1) := by decide +kernel
theorem dX8_size_97 : decode cX8_size 97 = .ok (.aload_n 0, 1) := by decide +kernel
theorem dX8_size_98 : decode cX8_size 98 = .ok (.getfield 10, 3) := by decide +kernel
theorem dX8_size_101 : decode cX8_size 101 = .ok (.getfield 97, 3) := by decide +kernel
theorem dX8_size_104 : decode cX8_size 104 = .ok (.getfield 101, 3) := by decide +kernel
theorem dX8_size_107 : decode cX8_size 107 = .ok (.ireturn, 1) := by decide +kernel
theorem dX8_size_108 : decode cX8_size 108 = .ok (.aload_n 0, 1) := by decide +kernel
theorem dX8_size_109 : decode cX8_size 109 = .ok (.getfield 10, 3) := by decide +kernel
theorem dX8_size_112 : decode cX8_size 112 = .ok (.getfield 106, 3) := by decide +kernel
theorem dX8_size_115 : decode cX8_size 115 = .ok (.getfield 122, 3) := by decide +kernel
theorem dX8_size_118 : decode cX8_size 118 = .ok (.ireturn, 1) := by decide +kernel
theorem dX8_size_119 : decode cX8_size 119 = .ok (.aload_n 0, 1) := by decide +kernel
theorem dX8_size_120 : decode cX8_size 120 = .ok (.getfield 10, 3) := by decide +kernel
theorem dX8_size_123 : decode cX8_size 123 = .ok (.getfield 97, 3) := by decide +kernel
theorem dX8_size_126 : decode cX8_size 126 = .ok (.invokevirtual 125, 3) := by decide +kernel
theorem dX8_size_129 : decode cX8_size 129 = .ok (.invokestatic 128, 3) := by decide +kernel
theorem dX8_size_132 : decode cX8_size 132 = .ok (.ireturn, 1) := by decide +kernel
theorem dX8_size_133 : decode cX8_size 133 = .ok (.aload_n 0, 1) := by decide +kernel
theorem dX8_size_134 : decode cX8_size 134 = .ok (.getfield 10, 3) := by decide +kernel
theorem dX8_size_137 : decode cX8_size 137 = .ok (.getfield 97, 3) := by decide +kernel
theorem dX8_size_140 : decode cX8_size 140 = .ok (.invokevirtual 125, 3) := by decide +kernel
theorem dX8_size_143 : decode cX8_size 143 = .ok (.aload_n 0, 1) := by decide +kernel
theorem dX8_size_144 : decode cX8_size 144 = .ok (.getfield 10, 3) := by decide +kernel
theorem dX8_size_147 : decode cX8_size 147 = .ok (.getfield 97, 3) := by decide +kernel
theorem dX8_size_150 : decode cX8_size 150 = .ok (.getfield 134, 3) := by decide +kernel
theorem dX8_size_153 : decode cX8_size 153 = .ok (.iand, 1) := by decide +kernel
theorem dX8_size_154 : decode cX8_size 154 = .ok (.invokestatic 128, 3) := by decide +kernel
theorem dX8_size_157 : decode cX8_size 157 = .ok (.ireturn, 1) := by decide +kernel
theorem dX8_size_158 : decode cX8_size 158 = .ok (.aload_n 0, 1) := by decide +kernel
theorem dX8_size_159 : decode cX8_size 159 = .ok (.getfield 10, 3) := by decide +kernel
theorem dX8_size_162 : decode cX8_size 162 = .ok (.getfield 137, 3) := by decide +kernel
theorem dX8_size_165 : decode cX8_size 165 = .ok (.getfield 141, 3) := by decide +kernel
theorem dX8_size_168 : decode cX8_size 168 = .ok (.ireturn, 1) := by decide +kernel
theorem dX8_size_169 : decode cX8_size 169 = .ok (.aload_n 0, 1) := by decide +kernel
theorem dX8_size_170 : decode cX8_size 170 = .ok (.getfield 10, 3) := by decide +kernel
theorem dX8_size_173 : decode cX8_size 173 = .ok (.getfield 137, 3) := by decide +kernel
theorem dX8_size_176 : decode cX8_size 176 = .ok (.getfield 144, 3) := by decide +kernel
theorem dX8_size_179 : decode cX8_size 179 = .ok (.ireturn, 1) := by decide +kernel
theorem dX8_size_180 : decode cX8_size 180 = .ok (.aload_n 0, 1) := by decide +kernel
theorem dX8_size_181 : decode cX8_size 181 = .ok (.getfield 10, 3) := by decide +kernel
theorem dX8_size_184 : decode cX8_size 184 = .ok (.getfield 137, 3) := by decide +kernel
theorem dX8_size_187 : decode cX8_size 187 = .ok (.getfield 147, 3) := by decide +kernel
theorem dX8_size_190 : decode cX8_size 190 = .ok (.ireturn, 1) := by decide +kernel
theorem dX8_size_191 : decode cX8_size 191 = .ok (.aload_n 0, 1) := by decide +kernel
theorem dX8_size_192 : decode cX8_size 192 = .ok (.getfield 10, 3) := by decide +kernel
theorem dX8_size_195 : decode cX8_size 195 = .ok (.getfield 137, 3) := by decide +kernel
theorem dX8_size_198 : decode cX8_size 198 = .ok (.getfield 150, 3) := by decide +kernel
theorem dX8_size_201 : decode cX8_size 201 = .ok (.ireturn, 1) := by decide +kernel
theorem dX8_size_202 : decode cX8_size 202 = .ok (.aload_n 0, 1) := by decide +kernel
theorem dX8_size_203 : decode cX8_size 203 = .ok (.getfield 19, 3) := by decide +kernel
theorem dX8_size_206 : decode cX8_size 206 = .ok (.getfield 153, 3) := by decide +kernel
theorem dX8_size_209 : decode cX8_size 209 = .ok (.ireturn, 1) := by decide +kernel
theorem dX8_size_210 : decode cX8_size 210 = .ok (.new 154, 3) := by decide +kernel
theorem dX8_size_213 : decode cX8_size 213 = .ok (.dup, 1) := by decide +kernel
theorem dX8_size_214 : decode cX8_size 214 = .ok (.ldc 156, 2) := by decide +kernel
theorem dX8_size_216 : decode cX8_size 216 = .ok (.invokespecial 158, 3) := by decide +kernel
theorem dX8_size_219 : decode cX8_size 219 = .ok (.athrow, 1) := by decide +kernel
set_option maxRecDepth 20000 in
theorem ggX8_cell_X8_needCell : GoodIn wsX8_cell wsX8_needCell := goodIn_ca (goodIn_r _ [8, 9, 10, 3, 11, 12, 13, 14, 15, 16, 17, 64, 65, 66, 67, 68, 69, 70, 71, 72, 73, 74, 75, 76, 77, 78, 79, 80, 81, 82, 83, 84] (by decide +kernel) (by decide +kernel)) (goodIn_sub (fun _ h => List.mem_cons_of_mem _ (List.mem_append_right _ h)) (by decide +kernel))
set_option maxRecDepth 20000 in
theorem gX8_cell_X8_needCell : GoodIn wsX8_cell (wsV RX8 161 RX8 yX8_needCell wsX8_needCell) := goodIn_app (goodIn_of _ (by decide +kernel)) ggX8_cell_X8_needCell
set_option maxRecDepth 20000 in
theorem ggX8_cell_X1_isRiver : GoodIn wsX8_cell wsX1_isRiver := goodIn_r _ [21, 22, 79, 80, 81, 82, 83, 84] (by decide +kernel) (by decide +kernel)
set_option maxRecDepth 20000 in
theorem gX8_cell_X1_isRiver : GoodIn wsX8_cell (wsV RX8 164 RX1 yX1_isRiver wsX1_isRiver) := goodIn_app (goodIn_of _ (by decide +kernel)) ggX8_cell_X1_isRiver
set_option maxRecDepth 20000 in
theorem ggX8_cell_X1_isLand : GoodIn wsX8_cell wsX1_isLand := goodIn_r _ [26, 27, 79, 80, 81, 82, 83, 84] (by decide +kernel) (by decide +kernel)
set_option maxRecDepth 20000 in
theorem gX8_cell_X1_isLand : GoodIn wsX8_cell (wsV RX8 168 RX1 yX1_isLand wsX1_isLand) := goodIn_app (goodIn_of _ (by decide +kernel)) ggX8_cell_X1_isLand
set_option maxRecDepth 20000 in
theorem ggX8_cell_X2_inCell : GoodIn wsX8_cell wsX2_inCell := goodIn_r _ [32, 33, 34, 85, 86, 87, 88, 89, 90] (by decide +kernel) (by decide +kernel)
set_option maxRecDepth 20000 in
theorem gX8_cell_X2_inCell : GoodIn wsX8_cell (wsV RX8 171 RX2 yX2_inCell wsX2_inCell) := goodIn_app (goodIn_of _ (by decide +kernel)) ggX8_cell_X2_inCell
set_option maxRecDepth 20000 in
theorem ggX8_cell_X1_riverIn : GoodIn wsX8_cell wsX1_riverIn := goodIn_r _ [38, 22, 79, 80, 81, 82, 83, 84] (by decide +kernel) (by decide +kernel)
set_option maxRecDepth 20000 in
theorem gX8_cell_X1_riverIn : GoodIn wsX8_cell (wsV RX8 174 RX1 yX1_riverIn wsX1_riverIn) := goodIn_app (goodIn_of _ (by decide +kernel)) ggX8_cell_X1_riverIn
set_option maxRecDepth 20000 in
theorem ggX8_cell_X6_letterIn : GoodIn wsX8_cell wsX6_letterIn := goodIn_r _ [43, 44, 45, 46, 47, 42, 48, 49, 74, 75, 76, 77, 78] (by decide +kernel) (by decide +kernel)
set_option maxRecDepth 20000 in
theorem gX8_cell_X6_letterIn : GoodIn wsX8_cell (wsV RX8 177 RX6 yX6_letterIn wsX6_letterIn) := goodIn_app (goodIn_of _ (by decide +kernel)) ggX8_cell_X6_letterIn
set_option maxRecDepth 20000 in
theorem ggX8_cell_X6_namesIn : GoodIn wsX8_cell wsX6_namesIn := goodIn_r _ [48, 49, 74, 75, 76, 77, 78] (by decide +kernel) (by decide +kernel)
set_option maxRecDepth 20000 in
theorem gX8_cell_X6_namesIn : GoodIn wsX8_cell (wsV RX8 180 RX6 yX6_namesIn wsX6_namesIn) := goodIn_app (goodIn_of _ (by decide +kernel)) ggX8_cell_X6_namesIn
set_option maxRecDepth 20000 in
theorem ggX8_cell_X1_depthOf : GoodIn wsX8_cell wsX1_depthOf := goodIn_r _ [54, 17, 16, 55, 56, 57, 58, 59, 60, 61, 62, 24, 25, 14, 26, 27, 63, 12, 13, 15, 79, 80, 81, 82, 83, 84] (by decide +kernel) (by decide +kernel)
set_option maxRecDepth 20000 in
theorem gX8_cell_X1_depthOf : GoodIn wsX8_cell (wsV RX8 183 RX1 yX1_depthOf wsX1_depthOf) := goodIn_app (goodIn_of _ (by decide +kernel)) ggX8_cell_X1_depthOf
theorem dX8_cell_0 : decode cX8_cell 0 = .ok (.aload_n 0, 1) := by decide +kernel
theorem dX8_cell_1 : decode cX8_cell 1 = .ok (.iload_n 1, 1) := by decide +kernel
theorem dX8_cell_2 : decode cX8_cell 2 = .ok (.invokevirtual 161, 3) := by decide +kernel
theorem dX8_cell_5 : decode cX8_cell 5 = .ok (.iload_n 2, 1) := by decide +kernel
theorem dX8_cell_6 : decode cX8_cell 6 = .ok (.tableswitch 130 0 5 #[38, 76, 88, 100, 109, 118], 38) := by decide +kernel
theorem dX8_cell_44 : decode cX8_cell 44 = .ok (.aload_n 0, 1) := by decide +kernel
theorem dX8_cell_45 : decode cX8_cell 45 = .ok (.getfield 10, 3) := by decide +kernel
theorem dX8_cell_48 : decode cX8_cell 48 = .ok (.getfield 106, 3) := by decide +kernel
theorem dX8_cell_51 : decode cX8_cell 51 = .ok (.iload_n 1, 1) := by decide +kernel
theorem dX8_cell_52 : decode cX8_cell 52 = .ok (.invokevirtual 164, 3) := by decide +kernel
theorem dX8_cell_55 : decode cX8_cell 55 = .ok (.ifCond .eq 7, 3) := by decide +kernel
theorem dX8_cell_58 : decode cX8_cell 58 = .ok (.iconst 2, 1) := by decide +kernel
theorem dX8_cell_59 : decode cX8_cell 59 = .ok (.goto 22, 3) := by decide +kernel
theorem dX8_cell_62 : decode cX8_cell 62 = .ok (.aload_n 0, 1) := by decide +kernel
theorem dX8_cell_63 : decode cX8_cell 63 = .ok (.getfield 10, 3) := by decide +kernel
theorem dX8_cell_66 : decode cX8_cell 66 = .ok (.getfield 106, 3) := by decide +kernel
theorem dX8_cell_69 : decode cX8_cell 69 = .ok (.iload_n 1, 1) := by decide +kernel
theorem dX8_cell_70 : decode cX8_cell 70 = .ok (.invokevirtual 168, 3) := by decide +kernel
theorem dX8_cell_73 : decode cX8_cell 73 = .ok (.ifCond .eq 7, 3) := by decide +kernel
theorem dX8_cell_76 : decode cX8_cell 76 = .ok (.iconst 1, 1) := by decide +kernel
theorem dX8_cell_77 : decode cX8_cell 77 = .ok (.goto 4, 3) := by decide +kernel
theorem dX8_cell_80 : decode cX8_cell 80 = .ok (.iconst 0, 1) := by decide +kernel
theorem dX8_cell_81 : decode cX8_cell 81 = .ok (.ireturn, 1) := by decide +kernel
theorem dX8_cell_82 : decode cX8_cell 82 = .ok (.aload_n 0, 1) := by decide +kernel
theorem dX8_cell_83 : decode cX8_cell 83 = .ok (.getfield 10, 3) := by decide +kernel
theorem dX8_cell_86 : decode cX8_cell 86 = .ok (.getfield 97, 3) := by decide +kernel
theorem dX8_cell_89 : decode cX8_cell 89 = .ok (.iload_n 1, 1) := by decide +kernel
theorem dX8_cell_90 : decode cX8_cell 90 = .ok (.invokevirtual 171, 3) := by decide +kernel
theorem dX8_cell_93 : decode cX8_cell 93 = .ok (.ireturn, 1) := by decide +kernel
theorem dX8_cell_94 : decode cX8_cell 94 = .ok (.aload_n 0, 1) := by decide +kernel
theorem dX8_cell_95 : decode cX8_cell 95 = .ok (.getfield 10, 3) := by decide +kernel
theorem dX8_cell_98 : decode cX8_cell 98 = .ok (.getfield 106, 3) := by decide +kernel
theorem dX8_cell_101 : decode cX8_cell 101 = .ok (.iload_n 1, 1) := by decide +kernel
theorem dX8_cell_102 : decode cX8_cell 102 = .ok (.invokevirtual 174, 3) := by decide +kernel
theorem dX8_cell_105 : decode cX8_cell 105 = .ok (.ireturn, 1) := by decide +kernel
theorem dX8_cell_106 : decode cX8_cell 106 = .ok (.aload_n 0, 1) := by decide +kernel
theorem dX8_cell_107 : decode cX8_cell 107 = .ok (.getfield 10, 3) := by decide +kernel
theorem dX8_cell_110 : decode cX8_cell 110 = .ok (.iload_n 1, 1) := by decide +kernel
theorem dX8_cell_111 : decode cX8_cell 111 = .ok (.invokevirtual 177, 3) := by decide +kernel
theorem dX8_cell_114 : decode cX8_cell 114 = .ok (.ireturn, 1) := by decide +kernel
theorem dX8_cell_115 : decode cX8_cell 115 = .ok (.aload_n 0, 1) := by decide +kernel
theorem dX8_cell_116 : decode cX8_cell 116 = .ok (.getfield 10, 3) := by decide +kernel
theorem dX8_cell_119 : decode cX8_cell 119 = .ok (.iload_n 1, 1) := by decide +kernel
theorem dX8_cell_120 : decode cX8_cell 120 = .ok (.invokevirtual 180, 3) := by decide +kernel
theorem dX8_cell_123 : decode cX8_cell 123 = .ok (.ireturn, 1) := by decide +kernel
theorem dX8_cell_124 : decode cX8_cell 124 = .ok (.aload_n 0, 1) := by decide +kernel
theorem dX8_cell_125 : decode cX8_cell 125 = .ok (.getfield 10, 3) := by decide +kernel
theorem dX8_cell_128 : decode cX8_cell 128 = .ok (.getfield 106, 3) := by decide +kernel
theorem dX8_cell_131 : decode cX8_cell 131 = .ok (.iload_n 1, 1) := by decide +kernel
theorem dX8_cell_132 : decode cX8_cell 132 = .ok (.invokevirtual 183, 3) := by decide +kernel
theorem dX8_cell_135 : decode cX8_cell 135 = .ok (.ireturn, 1) := by decide +kernel
theorem dX8_cell_136 : decode cX8_cell 136 = .ok (.new 154, 3) := by decide +kernel
theorem dX8_cell_139 : decode cX8_cell 139 = .ok (.dup, 1) := by decide +kernel
theorem dX8_cell_140 : decode cX8_cell 140 = .ok (.ldc 186, 2) := by decide +kernel
theorem dX8_cell_142 : decode cX8_cell 142 = .ok (.invokespecial 158, 3) := by decide +kernel
theorem dX8_cell_145 : decode cX8_cell 145 = .ok (.athrow, 1) := by decide +kernel
set_option maxRecDepth 20000 in
theorem ggX8_harbour_X8_needHarbour : GoodIn wsX8_harbour wsX8_needHarbour := goodIn_ca (goodIn_r _ [8, 9, 10, 3, 44, 45, 46, 47, 48, 49, 50, 51, 52, 53, 54, 55, 56, 57, 58, 59, 60, 61, 62, 63, 64] (by decide +kernel) (by decide +kernel)) (goodIn_sub (fun _ h => List.mem_cons_of_mem _ (List.mem_append_right _ h)) (by decide +kernel))
set_option maxRecDepth 20000 in
theorem gX8_harbour_X8_needHarbour : GoodIn wsX8_harbour (wsV RX8 188 RX8 yX8_needHarbour wsX8_needHarbour) := goodIn_app (goodIn_of _ (by decide +kernel)) ggX8_harbour_X8_needHarbour
set_option maxRecDepth 20000 in
theorem ggX8_harbour_X2_homeOf : GoodIn wsX8_harbour wsX2_homeOf := goodIn_r _ [15, 16, 17, 59, 60, 61, 62, 63, 64] (by decide +kernel) (by decide +kernel)
set_option maxRecDepth 20000 in
theorem gX8_harbour_X2_homeOf : GoodIn wsX8_harbour (wsV RX8 191 RX2 yX2_homeOf wsX2_homeOf) := goodIn_app (goodIn_of _ (by decide +kernel)) ggX8_harbour_X2_homeOf
set_option maxRecDepth 20000 in
theorem ggX8_harbour_X2_isRed : GoodIn wsX8_harbour wsX2_isRed := goodIn_r _ [21, 22, 59, 60, 61, 62, 63, 64] (by decide +kernel) (by decide +kernel)
set_option maxRecDepth 20000 in
theorem gX8_harbour_X2_isRed : GoodIn wsX8_harbour (wsV RX8 194 RX2 yX2_isRed wsX2_isRed) := goodIn_app (goodIn_of _ (by decide +kernel)) ggX8_harbour_X2_isRed
set_option maxRecDepth 20000 in
theorem ggX8_harbour_X2_directionOf : GoodIn wsX8_harbour wsX2_directionOf := goodIn_r _ [26, 16, 27, 59, 60, 61, 62, 63, 64] (by decide +kernel) (by decide +kernel)
set_option maxRecDepth 20000 in
theorem gX8_harbour_X2_directionOf : GoodIn wsX8_harbour (wsV RX8 197 RX2 yX2_directionOf wsX2_directionOf) := goodIn_app (goodIn_of _ (by decide +kernel)) ggX8_harbour_X2_directionOf
set_option maxRecDepth 20000 in
theorem ggX8_harbour_X2_lengthOf : GoodIn wsX8_harbour wsX2_lengthOf := goodIn_r _ [31, 16, 32, 59, 60, 61, 62, 63, 64] (by decide +kernel) (by decide +kernel)
set_option maxRecDepth 20000 in
theorem gX8_harbour_X2_lengthOf : GoodIn wsX8_harbour (wsV RX8 200 RX2 yX2_lengthOf wsX2_lengthOf) := goodIn_app (goodIn_of _ (by decide +kernel)) ggX8_harbour_X2_lengthOf
set_option maxRecDepth 20000 in
theorem ggX8_harbour_X4_timesOf : GoodIn wsX8_harbour wsX4_timesOf := goodIn_r _ [37, 38, 39, 40, 41, 36, 42, 43, 65, 66, 67, 68, 69] (by decide +kernel) (by decide +kernel)
set_option maxRecDepth 20000 in
theorem gX8_harbour_X4_timesOf : GoodIn wsX8_harbour (wsV RX8 203 RX4 yX4_timesOf wsX4_timesOf) := goodIn_app (goodIn_of _ (by decide +kernel)) ggX8_harbour_X4_timesOf
theorem dX8_harbour_0 : decode cX8_harbour 0 = .ok (.aload_n 0, 1) := by decide +kernel
theorem dX8_harbour_1 : decode cX8_harbour 1 = .ok (.iload_n 1, 1) := by decide +kernel
theorem dX8_harbour_2 : decode cX8_harbour 2 = .ok (.invokevirtual 188, 3) := by decide +kernel
theorem dX8_harbour_5 : decode cX8_harbour 5 = .ok (.iload_n 2, 1) := by decide +kernel
theorem dX8_harbour_6 : decode cX8_harbour 6 = .ok (.tableswitch 102 0 4 #[34, 46, 66, 78, 90], 34) := by decide +kernel
theorem dX8_harbour_40 : decode cX8_harbour 40 = .ok (.aload_n 0, 1) := by decide +kernel
theorem dX8_harbour_41 : decode cX8_harbour 41 = .ok (.getfield 10, 3) := by decide +kernel
theorem dX8_harbour_44 : decode cX8_harbour 44 = .ok (.getfield 97, 3) := by decide +kernel
theorem dX8_harbour_47 : decode cX8_harbour 47 = .ok (.iload_n 1, 1) := by decide +kernel
theorem dX8_harbour_48 : decode cX8_harbour 48 = .ok (.invokevirtual 191, 3) := by decide +kernel
theorem dX8_harbour_51 : decode cX8_harbour 51 = .ok (.ireturn, 1) := by decide +kernel
theorem dX8_harbour_52 : decode cX8_harbour 52 = .ok (.aload_n 0, 1) := by decide +kernel
theorem dX8_harbour_53 : decode cX8_harbour 53 = .ok (.getfield 10, 3) := by decide +kernel
theorem dX8_harbour_56 : decode cX8_harbour 56 = .ok (.getfield 97, 3) := by decide +kernel
theorem dX8_harbour_59 : decode cX8_harbour 59 = .ok (.iload_n 1, 1) := by decide +kernel
theorem dX8_harbour_60 : decode cX8_harbour 60 = .ok (.invokevirtual 194, 3) := by decide +kernel
theorem dX8_harbour_63 : decode cX8_harbour 63 = .ok (.ifCond .eq 7, 3) := by decide +kernel
theorem dX8_harbour_66 : decode cX8_harbour 66 = .ok (.iconst 1, 1) := by decide +kernel
theorem dX8_harbour_67 : decode cX8_harbour 67 = .ok (.goto 4, 3) := by decide +kernel
theorem dX8_harbour_70 : decode cX8_harbour 70 = .ok (.iconst 0, 1) := by decide +kernel
theorem dX8_harbour_71 : decode cX8_harbour 71 = .ok (.ireturn, 1) := by decide +kernel
theorem dX8_harbour_72 : decode cX8_harbour 72 = .ok (.aload_n 0, 1) := by decide +kernel
theorem dX8_harbour_73 : decode cX8_harbour 73 = .ok (.getfield 10, 3) := by decide +kernel
theorem dX8_harbour_76 : decode cX8_harbour 76 = .ok (.getfield 97, 3) := by decide +kernel
theorem dX8_harbour_79 : decode cX8_harbour 79 = .ok (.iload_n 1, 1) := by decide +kernel
theorem dX8_harbour_80 : decode cX8_harbour 80 = .ok (.invokevirtual 197, 3) := by decide +kernel
theorem dX8_harbour_83 : decode cX8_harbour 83 = .ok (.ireturn, 1) := by decide +kernel
theorem dX8_harbour_84 : decode cX8_harbour 84 = .ok (.aload_n 0, 1) := by decide +kernel
theorem dX8_harbour_85 : decode cX8_harbour 85 = .ok (.getfield 10, 3) := by decide +kernel
theorem dX8_harbour_88 : decode cX8_harbour 88 = .ok (.getfield 97, 3) := by decide +kernel
theorem dX8_harbour_91 : decode cX8_harbour 91 = .ok (.iload_n 1, 1) := by decide +kernel
theorem dX8_harbour_92 : decode cX8_harbour 92 = .ok (.invokevirtual 200, 3) := by decide +kernel
theorem dX8_harbour_95 : decode cX8_harbour 95 = .ok (.ireturn, 1) := by decide +kernel
theorem dX8_harbour_96 : decode cX8_harbour 96 = .ok (.aload_n 0, 1) := by decide +kernel
theorem dX8_harbour_97 : decode cX8_harbour 97 = .ok (.getfield 10, 3) := by decide +kernel
theorem dX8_harbour_100 : decode cX8_harbour 100 = .ok (.getfield 137, 3) := by decide +kernel
theorem dX8_harbour_103 : decode cX8_harbour 103 = .ok (.iload_n 1, 1) := by decide +kernel
theorem dX8_harbour_104 : decode cX8_harbour 104 = .ok (.invokevirtual 203, 3) := by decide +kernel
theorem dX8_harbour_107 : decode cX8_harbour 107 = .ok (.ireturn, 1) := by decide +kernel
theorem dX8_harbour_108 : decode cX8_harbour 108 = .ok (.new 154, 3) := by decide +kernel
theorem dX8_harbour_111 : decode cX8_harbour 111 = .ok (.dup, 1) := by decide +kernel
theorem dX8_harbour_112 : decode cX8_harbour 112 = .ok (.ldc 206, 2) := by decide +kernel
theorem dX8_harbour_114 : decode cX8_harbour 114 = .ok (.invokespecial 158, 3) := by decide +kernel
theorem dX8_harbour_117 : decode cX8_harbour 117 = .ok (.athrow, 1) := by decide +kernel
set_option maxRecDepth 20000 in
theorem ggX8_letter_X8_needHarbour : GoodIn wsX8_letter wsX8_needHarbour := goodIn_ca (goodIn_r _ [6, 7, 8, 1, 21, 22, 23, 24, 25, 26, 27, 28, 29, 30, 31, 32, 33, 34, 35, 36, 37, 38, 39, 40, 41] (by decide +kernel) (by decide +kernel)) (goodIn_sub (fun _ h => List.mem_cons_of_mem _ (List.mem_append_right _ h)) (by decide +kernel))
set_option maxRecDepth 20000 in
theorem gX8_letter_X8_needHarbour : GoodIn wsX8_letter (wsV RX8 188 RX8 yX8_needHarbour wsX8_needHarbour) := goodIn_app (goodIn_of _ (by decide +kernel)) ggX8_letter_X8_needHarbour
set_option maxRecDepth 20000 in
theorem ggX8_letter_X2_letterOf : GoodIn wsX8_letter wsX2_letterOf := goodIn_r _ [13, 14, 15, 16, 17, 12, 18, 19, 20, 36, 37, 38, 39, 40, 41] (by decide +kernel) (by decide +kernel)
set_option maxRecDepth 20000 in
theorem gX8_letter_X2_letterOf : GoodIn wsX8_letter (wsV RX8 208 RX2 yX2_letterOf wsX2_letterOf) := goodIn_app (goodIn_of _ (by decide +kernel)) ggX8_letter_X2_letterOf
theorem dX8_letter_0 : decode cX8_letter 0 = .ok (.aload_n 0, 1) := by decide +kernel
theorem dX8_letter_1 : decode cX8_letter 1 = .ok (.iload_n 1, 1) := by decide +kernel
theorem dX8_letter_2 : decode cX8_letter 2 = .ok (.invokevirtual 188, 3) := by decide +kernel
theorem dX8_letter_5 : decode cX8_letter 5 = .ok (.aload_n 0, 1) := by decide +kernel
theorem dX8_letter_6 : decode cX8_letter 6 = .ok (.getfield 10, 3) := by decide +kernel
theorem dX8_letter_9 : decode cX8_letter 9 = .ok (.getfield 97, 3) := by decide +kernel
theorem dX8_letter_12 : decode cX8_letter 12 = .ok (.iload_n 1, 1) := by decide +kernel
theorem dX8_letter_13 : decode cX8_letter 13 = .ok (.iload_n 2, 1) := by decide +kernel
theorem dX8_letter_14 : decode cX8_letter 14 = .ok (.invokevirtual 208, 3) := by decide +kernel
theorem dX8_letter_17 : decode cX8_letter 17 = .ok (.ireturn, 1) := by decide +kernel
set_option maxRecDepth 20000 in
theorem ggX8_river_X8_needRiver : GoodIn wsX8_river wsX8_needRiver := goodIn_ca (goodIn_r _ [6, 7, 8, 1, 16, 17, 18, 19, 20, 21, 22, 23, 24, 25, 26, 27, 28, 29, 30, 31, 32, 33, 34, 35, 36] (by decide +kernel) (by decide +kernel)) (goodIn_sub (fun _ h => List.mem_cons_of_mem _ (List.mem_append_right _ h)) (by decide +kernel))
set_option maxRecDepth 20000 in
theorem gX8_river_X8_needRiver : GoodIn wsX8_river (wsV RX8 212 RX8 yX8_needRiver wsX8_needRiver) := goodIn_app (goodIn_of _ (by decide +kernel)) ggX8_river_X8_needRiver
set_option maxRecDepth 20000 in
theorem ggX8_river_X1_riverCell : GoodIn wsX8_river wsX1_riverCell := goodIn_r _ [13, 14, 15, 31, 32, 33, 34, 35, 36] (by decide +kernel) (by decide +kernel)
set_option maxRecDepth 20000 in
theorem gX8_river_X1_riverCell : GoodIn wsX8_river (wsV RX8 215 RX1 yX1_riverCell wsX1_riverCell) := goodIn_app (goodIn_of _ (by decide +kernel)) ggX8_river_X1_riverCell
theorem dX8_river_0 : decode cX8_river 0 = .ok (.aload_n 0, 1) := by decide +kernel
theorem dX8_river_1 : decode cX8_river 1 = .ok (.iload_n 1, 1) := by decide +kernel
theorem dX8_river_2 : decode cX8_river 2 = .ok (.invokevirtual 212, 3) := by decide +kernel
theorem dX8_river_5 : decode cX8_river 5 = .ok (.aload_n 0, 1) := by decide +kernel
theorem dX8_river_6 : decode cX8_river 6 = .ok (.getfield 10, 3) := by decide +kernel
theorem dX8_river_9 : decode cX8_river 9 = .ok (.getfield 106, 3) := by decide +kernel
theorem dX8_river_12 : decode cX8_river 12 = .ok (.iload_n 1, 1) := by decide +kernel
theorem dX8_river_13 : decode cX8_river 13 = .ok (.iload_n 2, 1) := by decide +kernel
theorem dX8_river_14 : decode cX8_river 14 = .ok (.invokevirtual 215, 3) := by decide +kernel
theorem dX8_river_17 : decode cX8_river 17 = .ok (.ireturn, 1) := by decide +kernel
set_option maxRecDepth 20000 in
theorem ggX8_voyage_X4_stopAt : GoodIn wsX8_voyage wsX4_stopAt := goodIn_r _ [6, 7, 8, 24, 25, 26, 27, 28] (by decide +kernel) (by decide +kernel)
set_option maxRecDepth 20000 in
theorem gX8_voyage_X4_stopAt : GoodIn wsX8_voyage (wsV RX8 218 RX4 yX4_stopAt wsX4_stopAt) := goodIn_app (goodIn_of _ (by decide +kernel)) ggX8_voyage_X4_stopAt
theorem dX8_voyage_0 : decode cX8_voyage 0 = .ok (.aload_n 0, 1) := by decide +kernel
theorem dX8_voyage_1 : decode cX8_voyage 1 = .ok (.getfield 10, 3) := by decide +kernel
theorem dX8_voyage_4 : decode cX8_voyage 4 = .ok (.getfield 137, 3) := by decide +kernel
theorem dX8_voyage_7 : decode cX8_voyage 7 = .ok (.iload_n 1, 1) := by decide +kernel
theorem dX8_voyage_8 : decode cX8_voyage 8 = .ok (.invokevirtual 218, 3) := by decide +kernel
theorem dX8_voyage_11 : decode cX8_voyage 11 = .ok (.ireturn, 1) := by decide +kernel
set_option maxRecDepth 20000 in
theorem ggX8_why_X8_needHarbour : GoodIn wsX8_why wsX8_needHarbour := goodIn_ca (goodIn_r _ [6, 7, 8, 1, 82, 83, 84, 85, 86, 87, 88, 89, 90, 91, 92, 93, 94, 95, 96, 97, 98, 99, 100, 101, 102] (by decide +kernel) (by decide +kernel)) (goodIn_sub (fun _ h => List.mem_cons_of_mem _ (List.mem_append_left _ (List.mem_append_right _ h))) (by decide +kernel))
set_option maxRecDepth 20000 in
theorem gX8_why_X8_needHarbour : GoodIn wsX8_why (wsV RX8 188 RX8 yX8_needHarbour wsX8_needHarbour) := goodIn_app (goodIn_of _ (by decide +kernel)) ggX8_why_X8_needHarbour
set_option maxRecDepth 20000 in
theorem ggX8_why_X8_needDirection : GoodIn wsX8_why wsX8_needDirection := goodIn_ca (goodIn_r _ [11, 12, 13] (by decide +kernel) (by decide +kernel)) (goodIn_sub (fun _ h => List.mem_cons_of_mem _ (List.mem_append_right _ h)) (by decide +kernel))
set_option maxRecDepth 20000 in
theorem gX8_why_X8_needDirection : GoodIn wsX8_why (va_wsS RX8 221 yX8_needDirection wsX8_needDirection) := goodIn_app (goodIn_of _ (by decide +kernel)) ggX8_why_X8_needDirection
set_option maxRecDepth 20000 in
theorem ggX8_why_X6_reasonAgainst : GoodIn wsX8_why wsX6_reasonAgainst := goodIn_r _ [18, 19, 20, 21, 17, 22, 23, 24, 25, 26, 27, 28, 29, 30, 31, 32, 33, 34, 35, 36, 37, 38, 39, 40, 41, 42, 43, 44, 45, 46, 47, 48, 49, 50, 51, 52, 53, 54, 55, 56, 57, 58, 59, 60, 61, 62, 63, 64, 65, 66, 67, 68, 69, 70, 71, 72, 73, 74, 75, 76, 77, 78, 79, 80, 81, 92, 93, 94, 95, 96, 97, 98, 99, 100, 101, 102, 103, 104, 105, 106, 107, 108] (by decide +kernel) (by decide +kernel)
set_option maxRecDepth 20000 in
theorem gX8_why_X6_reasonAgainst : GoodIn wsX8_why (wsV RX8 224 RX6 yX6_reasonAgainst wsX6_reasonAgainst) := goodIn_app (goodIn_of _ (by decide +kernel)) ggX8_why_X6_reasonAgainst
theorem dX8_why_0 : decode cX8_why 0 = .ok (.aload_n 0, 1) := by decide +kernel
theorem dX8_why_1 : decode cX8_why 1 = .ok (.iload_n 1, 1) := by decide +kernel
theorem dX8_why_2 : decode cX8_why 2 = .ok (.invokevirtual 188, 3) := by decide +kernel
theorem dX8_why_5 : decode cX8_why 5 = .ok (.iload_n 2, 1) := by decide +kernel
theorem dX8_why_6 : decode cX8_why 6 = .ok (.invokestatic 221, 3) := by decide +kernel
theorem dX8_why_9 : decode cX8_why 9 = .ok (.aload_n 0, 1) := by decide +kernel
theorem dX8_why_10 : decode cX8_why 10 = .ok (.getfield 10, 3) := by decide +kernel
theorem dX8_why_13 : decode cX8_why 13 = .ok (.iload_n 1, 1) := by decide +kernel
theorem dX8_why_14 : decode cX8_why 14 = .ok (.iload_n 2, 1) := by decide +kernel
theorem dX8_why_15 : decode cX8_why 15 = .ok (.invokevirtual 224, 3) := by decide +kernel
theorem dX8_why_18 : decode cX8_why 18 = .ok (.ireturn, 1) := by decide +kernel
set_option maxRecDepth 20000 in
theorem ggX8_ways_X8_needHarbour : GoodIn wsX8_ways wsX8_needHarbour := goodIn_ca (goodIn_r _ [6, 7, 8, 1, 77, 78, 79, 80, 81, 82, 83, 84, 85, 86, 87, 88, 89, 90, 91, 92, 93, 94, 95, 96, 97] (by decide +kernel) (by decide +kernel)) (goodIn_sub (fun _ h => List.mem_cons_of_mem _ (List.mem_append_right _ h)) (by decide +kernel))
set_option maxRecDepth 20000 in
theorem gX8_ways_X8_needHarbour : GoodIn wsX8_ways (wsV RX8 188 RX8 yX8_needHarbour wsX8_needHarbour) := goodIn_app (goodIn_of _ (by decide +kernel)) ggX8_ways_X8_needHarbour
set_option maxRecDepth 20000 in
theorem ggX8_ways_X6_reasonAgainst : GoodIn wsX8_ways wsX6_reasonAgainst := goodIn_r _ [13, 14, 15, 16, 12, 17, 18, 19, 20, 21, 22, 23, 24, 25, 26, 27, 28, 29, 30, 31, 32, 33, 34, 35, 36, 37, 38, 39, 40, 41, 42, 43, 44, 45, 46, 47, 48, 49, 50, 51, 52, 53, 54, 55, 56, 57, 58, 59, 60, 61, 62, 63, 64, 65, 66, 67, 68, 69, 70, 71, 72, 73, 74, 75, 76, 87, 88, 89, 90, 91, 92, 93, 94, 95, 96, 97, 98, 99, 100, 101, 102, 103] (by decide +kernel) (by decide +kernel)
set_option maxRecDepth 20000 in
theorem gX8_ways_X6_reasonAgainst : GoodIn wsX8_ways (wsV RX8 224 RX6 yX6_reasonAgainst wsX6_reasonAgainst) := goodIn_app (goodIn_of _ (by decide +kernel)) ggX8_ways_X6_reasonAgainst
theorem dX8_ways_0 : decode cX8_ways 0 = .ok (.aload_n 0, 1) := by decide +kernel
theorem dX8_ways_1 : decode cX8_ways 1 = .ok (.iload_n 1, 1) := by decide +kernel
theorem dX8_ways_2 : decode cX8_ways 2 = .ok (.invokevirtual 188, 3) := by decide +kernel
theorem dX8_ways_5 : decode cX8_ways 5 = .ok (.iconst 0, 1) := by decide +kernel
theorem dX8_ways_6 : decode cX8_ways 6 = .ok (.istore_n 2, 1) := by decide +kernel
theorem dX8_ways_7 : decode cX8_ways 7 = .ok (.iconst 0, 1) := by decide +kernel
theorem dX8_ways_8 : decode cX8_ways 8 = .ok (.istore_n 3, 1) := by decide +kernel
theorem dX8_ways_9 : decode cX8_ways 9 = .ok (.iload_n 3, 1) := by decide +kernel
theorem dX8_ways_10 : decode cX8_ways 10 = .ok (.iconst 4, 1) := by decide +kernel
theorem dX8_ways_11 : decode cX8_ways 11 = .ok (.if_icmp .ge 27, 3) := by decide +kernel
theorem dX8_ways_14 : decode cX8_ways 14 = .ok (.aload_n 0, 1) := by decide +kernel
theorem dX8_ways_15 : decode cX8_ways 15 = .ok (.getfield 10, 3) := by decide +kernel
theorem dX8_ways_18 : decode cX8_ways 18 = .ok (.iload_n 1, 1) := by decide +kernel
theorem dX8_ways_19 : decode cX8_ways 19 = .ok (.iload_n 3, 1) := by decide +kernel
theorem dX8_ways_20 : decode cX8_ways 20 = .ok (.invokevirtual 224, 3) := by decide +kernel
theorem dX8_ways_23 : decode cX8_ways 23 = .ok (.ifCond .ne 9, 3) := by decide +kernel
theorem dX8_ways_26 : decode cX8_ways 26 = .ok (.iload_n 2, 1) := by decide +kernel
theorem dX8_ways_27 : decode cX8_ways 27 = .ok (.iconst 1, 1) := by decide +kernel
theorem dX8_ways_28 : decode cX8_ways 28 = .ok (.iload_n 3, 1) := by decide +kernel
theorem dX8_ways_29 : decode cX8_ways 29 = .ok (.ishl, 1) := by decide +kernel
theorem dX8_ways_30 : decode cX8_ways 30 = .ok (.ior, 1) := by decide +kernel
theorem dX8_ways_31 : decode cX8_ways 31 = .ok (.istore_n 2, 1) := by decide +kernel
theorem dX8_ways_32 : decode cX8_ways 32 = .ok (.iinc 3 1, 3) := by decide +kernel
theorem dX8_ways_35 : decode cX8_ways 35 = .ok (.goto (-26), 3) := by decide +kernel
theorem dX8_ways_38 : decode cX8_ways 38 = .ok (.iload_n 2, 1) := by decide +kernel
theorem dX8_ways_39 : decode cX8_ways 39 = .ok (.ireturn, 1) := by decide +kernel
set_option maxRecDepth 20000 in
theorem ggX8_room_X8_needHarbour : GoodIn wsX8_room wsX8_needHarbour := goodIn_ca (goodIn_r _ [6, 7, 8, 1, 49, 50, 51, 52, 53, 54, 55, 56, 57, 58, 59, 60, 61, 62, 63, 64, 65, 66, 67, 68, 69] (by decide +kernel) (by decide +kernel)) (goodIn_sub (fun _ h => List.mem_cons_of_mem _ (List.mem_append_left _ (List.mem_append_right _ h))) (by decide +kernel))
set_option maxRecDepth 20000 in
theorem gX8_room_X8_needHarbour : GoodIn wsX8_room (wsV RX8 188 RX8 yX8_needHarbour wsX8_needHarbour) := goodIn_app (goodIn_of _ (by decide +kernel)) ggX8_room_X8_needHarbour
set_option maxRecDepth 20000 in
theorem ggX8_room_X8_needDirection : GoodIn wsX8_room wsX8_needDirection := goodIn_ca (goodIn_r _ [11, 12, 13] (by decide +kernel) (by decide +kernel)) (goodIn_sub (fun _ h => List.mem_cons_of_mem _ (List.mem_append_right _ h)) (by decide +kernel))
set_option maxRecDepth 20000 in
theorem gX8_room_X8_needDirection : GoodIn wsX8_room (va_wsS RX8 221 yX8_needDirection wsX8_needDirection) := goodIn_app (goodIn_of _ (by decide +kernel)) ggX8_room_X8_needDirection
set_option maxRecDepth 20000 in
theorem ggX8_room_X2_homeOf : GoodIn wsX8_room wsX2_homeOf := goodIn_r _ [18, 19, 20, 64, 65, 66, 67, 68, 69] (by decide +kernel) (by decide +kernel)
set_option maxRecDepth 20000 in
theorem gX8_room_X2_homeOf : GoodIn wsX8_room (wsV RX8 191 RX2 yX2_homeOf wsX2_homeOf) := goodIn_app (goodIn_of _ (by decide +kernel)) ggX8_room_X2_homeOf
set_option maxRecDepth 20000 in
theorem ggX8_room_X1_ahead : GoodIn wsX8_room wsX1_ahead := goodIn_r _ [25, 26, 27, 70, 71, 72, 73, 74, 75] (by decide +kernel) (by decide +kernel)
set_option maxRecDepth 20000 in
theorem gX8_room_X1_ahead : GoodIn wsX8_room (wsV RX8 227 RX1 yX1_ahead wsX1_ahead) := goodIn_app (goodIn_of _ (by decide +kernel)) ggX8_room_X1_ahead
set_option maxRecDepth 20000 in
theorem ggX8_room_X6_isOpen : GoodIn wsX8_room wsX6_isOpen := goodIn_r _ [32, 33, 34, 35, 36, 37, 24, 38, 39, 40, 41, 42, 43, 44, 45, 46, 47, 17, 48, 19, 20, 59, 60, 61, 62, 63, 70, 71, 72, 73, 74, 75, 64, 65, 66, 67, 68, 69] (by decide +kernel) (by decide +kernel)
set_option maxRecDepth 20000 in
theorem gX8_room_X6_isOpen : GoodIn wsX8_room (wsV RX8 231 RX6 yX6_isOpen wsX6_isOpen) := goodIn_app (goodIn_of _ (by decide +kernel)) ggX8_room_X6_isOpen
theorem dX8_room_0 : decode cX8_room 0 = .ok (.aload_n 0, 1) := by decide +kernel
theorem dX8_room_1 : decode cX8_room 1 = .ok (.iload_n 1, 1) := by decide +kernel
theorem dX8_room_2 : decode cX8_room 2 = .ok (.invokevirtual 188, 3) := by decide +kernel
theorem dX8_room_5 : decode cX8_room 5 = .ok (.iload_n 2, 1) := by decide +kernel
theorem dX8_room_6 : decode cX8_room 6 = .ok (.invokestatic 221, 3) := by decide +kernel
theorem dX8_room_9 : decode cX8_room 9 = .ok (.aload_n 0, 1) := by decide +kernel
theorem dX8_room_10 : decode cX8_room 10 = .ok (.getfield 10, 3) := by decide +kernel
theorem dX8_room_13 : decode cX8_room 13 = .ok (.getfield 97, 3) := by decide +kernel
theorem dX8_room_16 : decode cX8_room 16 = .ok (.iload_n 1, 1) := by decide +kernel
theorem dX8_room_17 : decode cX8_room 17 = .ok (.invokevirtual 191, 3) := by decide +kernel
theorem dX8_room_20 : decode cX8_room 20 = .ok (.istore_n 3, 1) := by decide +kernel
theorem dX8_room_21 : decode cX8_room 21 = .ok (.iconst 1, 1) := by decide +kernel
theorem dX8_room_22 : decode cX8_room 22 = .ok (.istore 4, 2) := by decide +kernel
theorem dX8_room_24 : decode cX8_room 24 = .ok (.iload 4, 2) := by decide +kernel
theorem dX8_room_26 : decode cX8_room 26 = .ok (.bipush 12, 2) := by decide +kernel
theorem dX8_room_28 : decode cX8_room 28 = .ok (.if_icmp .ge 38, 3) := by decide +kernel
theorem dX8_room_31 : decode cX8_room 31 = .ok (.aload_n 0, 1) := by decide +kernel
theorem dX8_room_32 : decode cX8_room 32 = .ok (.getfield 10, 3) := by decide +kernel
theorem dX8_room_35 : decode cX8_room 35 = .ok (.aload_n 0, 1) := by decide +kernel
theorem dX8_room_36 : decode cX8_room 36 = .ok (.getfield 10, 3) := by decide +kernel
theorem dX8_room_39 : decode cX8_room 39 = .ok (.getfield 106, 3) := by decide +kernel
theorem dX8_room_42 : decode cX8_room 42 = .ok (.iload_n 3, 1) := by decide +kernel
theorem dX8_room_43 : decode cX8_room 43 = .ok (.iload_n 2, 1) := by decide +kernel
theorem dX8_room_44 : decode cX8_room 44 = .ok (.iload 4, 2) := by decide +kernel
theorem dX8_room_46 : decode cX8_room 46 = .ok (.invokevirtual 227, 3) := by decide +kernel
theorem dX8_room_49 : decode cX8_room 49 = .ok (.invokevirtual 231, 3) := by decide +kernel
theorem dX8_room_52 : decode cX8_room 52 = .ok (.ifCond .ne 8, 3) := by decide +kernel
theorem dX8_room_55 : decode cX8_room 55 = .ok (.iload 4, 2) := by decide +kernel
theorem dX8_room_57 : decode cX8_room 57 = .ok (.iconst 1, 1) := by decide +kernel
theorem dX8_room_58 : decode cX8_room 58 = .ok (.isub, 1) := by decide +kernel
theorem dX8_room_59 : decode cX8_room 59 = .ok (.ireturn, 1) := by decide +kernel
theorem dX8_room_60 : decode cX8_room 60 = .ok (.iinc 4 1, 3) := by decide +kernel
theorem dX8_room_63 : decode cX8_room 63 = .ok (.goto (-39), 3) := by decide +kernel
theorem dX8_room_66 : decode cX8_room 66 = .ok (.bipush 11, 2) := by decide +kernel
theorem dX8_room_68 : decode cX8_room 68 = .ok (.ireturn, 1) := by decide +kernel
set_option maxRecDepth 20000 in
theorem ggX8_crossings_X6_crossedBy : GoodIn wsX8_crossings wsX6_crossedBy := goodIn_r _ [6, 7, 8, 9, 10, 11, 12, 13, 14, 15, 16, 17, 18, 19, 20, 21, 22, 23, 24, 25, 26, 27, 28, 29, 30, 31, 32, 33, 34, 35, 5, 36, 37, 55, 56, 57, 58, 59, 60, 61, 62, 63, 64, 65, 66, 67, 68, 69, 70, 71] (by decide +kernel) (by decide +kernel)
set_option maxRecDepth 20000 in
theorem gX8_crossings_X6_crossedBy : GoodIn wsX8_crossings (wsV RX8 234 RX6 yX6_crossedBy wsX6_crossedBy) := goodIn_app (goodIn_of _ (by decide +kernel)) ggX8_crossings_X6_crossedBy
set_option maxRecDepth 20000 in
theorem ggX8_crossings_J6_bitCount_0f7a4 : GoodIn wsX8_crossings wsJ6_bitCount_0f7a4 := goodIn_r _ [41, 42, 43, 44] (by decide +kernel) (by decide +kernel)
set_option maxRecDepth 20000 in
theorem gX8_crossings_J6_bitCount_0f7a4 : GoodIn wsX8_crossings (va_wsS RX8 128 yJ6_bitCount_0f7a4 wsJ6_bitCount_0f7a4) := goodIn_app (goodIn_of _ (by decide +kernel)) ggX8_crossings_J6_bitCount_0f7a4
theorem dX8_crossings_0 : decode cX8_crossings 0 = .ok (.iconst 0, 1) := by decide +kernel
theorem dX8_crossings_1 : decode cX8_crossings 1 = .ok (.istore_n 1, 1) := by decide +kernel
theorem dX8_crossings_2 : decode cX8_crossings 2 = .ok (.iconst 0, 1) := by decide +kernel
theorem dX8_crossings_3 : decode cX8_crossings 3 = .ok (.istore_n 2, 1) := by decide +kernel
theorem dX8_crossings_4 : decode cX8_crossings 4 = .ok (.iload_n 2, 1) := by decide +kernel
theorem dX8_crossings_5 : decode cX8_crossings 5 = .ok (.aload_n 0, 1) := by decide +kernel
theorem dX8_crossings_6 : decode cX8_crossings 6 = .ok (.getfield 10, 3) := by decide +kernel
theorem dX8_crossings_9 : decode cX8_crossings 9 = .ok (.getfield 97, 3) := by decide +kernel
theorem dX8_crossings_12 : decode cX8_crossings 12 = .ok (.getfield 101, 3) := by decide +kernel
theorem dX8_crossings_15 : decode cX8_crossings 15 = .ok (.if_icmp .ge 23, 3) := by decide +kernel
theorem dX8_crossings_18 : decode cX8_crossings 18 = .ok (.iload_n 1, 1) := by decide +kernel
theorem dX8_crossings_19 : decode cX8_crossings 19 = .ok (.aload_n 0, 1) := by decide +kernel
theorem dX8_crossings_20 : decode cX8_crossings 20 = .ok (.getfield 10, 3) := by decide +kernel
theorem dX8_crossings_23 : decode cX8_crossings 23 = .ok (.iload_n 2, 1) := by decide +kernel
theorem dX8_crossings_24 : decode cX8_crossings 24 = .ok (.invokevirtual 234, 3) := by decide +kernel
theorem dX8_crossings_27 : decode cX8_crossings 27 = .ok (.invokestatic 128, 3) := by decide +kernel
theorem dX8_crossings_30 : decode cX8_crossings 30 = .ok (.iadd, 1) := by decide +kernel
theorem dX8_crossings_31 : decode cX8_crossings 31 = .ok (.istore_n 1, 1) := by decide +kernel
theorem dX8_crossings_32 : decode cX8_crossings 32 = .ok (.iinc 2 1, 3) := by decide +kernel
theorem dX8_crossings_35 : decode cX8_crossings 35 = .ok (.goto (-31), 3) := by decide +kernel
theorem dX8_crossings_38 : decode cX8_crossings 38 = .ok (.iload_n 1, 1) := by decide +kernel
theorem dX8_crossings_39 : decode cX8_crossings 39 = .ok (.iconst 2, 1) := by decide +kernel
theorem dX8_crossings_40 : decode cX8_crossings 40 = .ok (.idiv, 1) := by decide +kernel
theorem dX8_crossings_41 : decode cX8_crossings 41 = .ok (.ireturn, 1) := by decide +kernel
set_option maxRecDepth 20000 in
theorem ggX8_crossed_X8_needHarbour : GoodIn wsX8_crossed wsX8_needHarbour := goodIn_ca (goodIn_r _ [6, 7, 8, 1, 45, 46, 47, 48, 49, 50, 51, 52, 53, 54, 55, 56, 57, 58, 59, 60, 61, 62, 63, 64, 65] (by decide +kernel) (by decide +kernel)) (goodIn_sub (fun _ h => List.mem_cons_of_mem _ (List.mem_append_right _ h)) (by decide +kernel))
set_option maxRecDepth 20000 in
theorem gX8_crossed_X8_needHarbour : GoodIn wsX8_crossed (wsV RX8 188 RX8 yX8_needHarbour wsX8_needHarbour) := goodIn_app (goodIn_of _ (by decide +kernel)) ggX8_crossed_X8_needHarbour
set_option maxRecDepth 20000 in
theorem ggX8_crossed_X6_crossedBy : GoodIn wsX8_crossed wsX6_crossedBy := goodIn_r _ [13, 14, 15, 16, 17, 18, 19, 20, 21, 22, 23, 24, 25, 26, 27, 28, 29, 30, 31, 32, 33, 34, 35, 36, 37, 38, 39, 40, 41, 42, 12, 43, 44, 55, 56, 57, 58, 59, 60, 61, 62, 63, 64, 65, 66, 67, 68, 69, 70, 71] (by decide +kernel) (by decide +kernel)
set_option maxRecDepth 20000 in
theorem gX8_crossed_X6_crossedBy : GoodIn wsX8_crossed (wsV RX8 234 RX6 yX6_crossedBy wsX6_crossedBy) := goodIn_app (goodIn_of _ (by decide +kernel)) ggX8_crossed_X6_crossedBy
theorem dX8_crossed_0 : decode cX8_crossed 0 = .ok (.aload_n 0, 1) := by decide +kernel
theorem dX8_crossed_1 : decode cX8_crossed 1 = .ok (.iload_n 1, 1) := by decide +kernel
theorem dX8_crossed_2 : decode cX8_crossed 2 = .ok (.invokevirtual 188, 3) := by decide +kernel
theorem dX8_crossed_5 : decode cX8_crossed 5 = .ok (.aload_n 0, 1) := by decide +kernel
theorem dX8_crossed_6 : decode cX8_crossed 6 = .ok (.getfield 10, 3) := by decide +kernel
theorem dX8_crossed_9 : decode cX8_crossed 9 = .ok (.iload_n 1, 1) := by decide +kernel
theorem dX8_crossed_10 : decode cX8_crossed 10 = .ok (.invokevirtual 234, 3) := by decide +kernel
theorem dX8_crossed_13 : decode cX8_crossed 13 = .ok (.ireturn, 1) := by decide +kernel
set_option maxRecDepth 20000 in
theorem ggX8_free_X1_cells : GoodIn wsX8_free wsX1_cells := goodIn_r _ [6, 7, 8, 53, 54, 55, 56, 57, 58] (by decide +kernel) (by decide +kernel)
set_option maxRecDepth 20000 in
theorem gX8_free_X1_cells : GoodIn wsX8_free (wsV RX8 237 RX1 yX1_cells wsX1_cells) := goodIn_app (goodIn_of _ (by decide +kernel)) ggX8_free_X1_cells
set_option maxRecDepth 20000 in
theorem ggX8_free_X6_isOpen : GoodIn wsX8_free wsX6_isOpen := goodIn_r _ [13, 14, 15, 16, 17, 18, 5, 19, 20, 21, 22, 23, 24, 25, 26, 27, 28, 29, 30, 31, 32, 48, 49, 50, 51, 52, 53, 54, 55, 56, 57, 58, 59, 60, 61, 62, 63, 64] (by decide +kernel) (by decide +kernel)
set_option maxRecDepth 20000 in
theorem gX8_free_X6_isOpen : GoodIn wsX8_free (wsV RX8 231 RX6 yX6_isOpen wsX6_isOpen) := goodIn_app (goodIn_of _ (by decide +kernel)) ggX8_free_X6_isOpen
set_option maxRecDepth 20000 in
theorem ggX8_free_X6_namesIn : GoodIn wsX8_free wsX6_namesIn := goodIn_r _ [36, 37, 48, 49, 50, 51, 52] (by decide +kernel) (by decide +kernel)
set_option maxRecDepth 20000 in
theorem gX8_free_X6_namesIn : GoodIn wsX8_free (wsV RX8 180 RX6 yX6_namesIn wsX6_namesIn) := goodIn_app (goodIn_of _ (by decide +kernel)) ggX8_free_X6_namesIn
theorem dX8_free_0 : decode cX8_free 0 = .ok (.aload_n 0, 1) := by decide +kernel
theorem dX8_free_1 : decode cX8_free 1 = .ok (.getfield 10, 3) := by decide +kernel
theorem dX8_free_4 : decode cX8_free 4 = .ok (.getfield 106, 3) := by decide +kernel
theorem dX8_free_7 : decode cX8_free 7 = .ok (.invokevirtual 237, 3) := by decide +kernel
theorem dX8_free_10 : decode cX8_free 10 = .ok (.istore_n 1, 1) := by decide +kernel
theorem dX8_free_11 : decode cX8_free 11 = .ok (.iconst 0, 1) := by decide +kernel
theorem dX8_free_12 : decode cX8_free 12 = .ok (.istore_n 2, 1) := by decide +kernel
theorem dX8_free_13 : decode cX8_free 13 = .ok (.iconst 0, 1) := by decide +kernel
theorem dX8_free_14 : decode cX8_free 14 = .ok (.istore_n 3, 1) := by decide +kernel
theorem dX8_free_15 : decode cX8_free 15 = .ok (.iload_n 3, 1) := by decide +kernel
theorem dX8_free_16 : decode cX8_free 16 = .ok (.iload_n 1, 1) := by decide +kernel
theorem dX8_free_17 : decode cX8_free 17 = .ok (.if_icmp .ge 34, 3) := by decide +kernel
theorem dX8_free_20 : decode cX8_free 20 = .ok (.aload_n 0, 1) := by decide +kernel
theorem dX8_free_21 : decode cX8_free 21 = .ok (.getfield 10, 3) := by decide +kernel
theorem dX8_free_24 : decode cX8_free 24 = .ok (.iload_n 3, 1) := by decide +kernel
theorem dX8_free_25 : decode cX8_free 25 = .ok (.invokevirtual 231, 3) := by decide +kernel
theorem dX8_free_28 : decode cX8_free 28 = .ok (.ifCond .eq 17, 3) := by decide +kernel
theorem dX8_free_31 : decode cX8_free 31 = .ok (.aload_n 0, 1) := by decide +kernel
theorem dX8_free_32 : decode cX8_free 32 = .ok (.getfield 10, 3) := by decide +kernel
theorem dX8_free_35 : decode cX8_free 35 = .ok (.iload_n 3, 1) := by decide +kernel
theorem dX8_free_36 : decode cX8_free 36 = .ok (.invokevirtual 180, 3) := by decide +kernel
theorem dX8_free_39 : decode cX8_free 39 = .ok (.ifCond .ne 6, 3) := by decide +kernel
theorem dX8_free_42 : decode cX8_free 42 = .ok (.iinc 2 1, 3) := by decide +kernel
theorem dX8_free_45 : decode cX8_free 45 = .ok (.iinc 3 1, 3) := by decide +kernel
theorem dX8_free_48 : decode cX8_free 48 = .ok (.goto (-33), 3) := by decide +kernel
theorem dX8_free_51 : decode cX8_free 51 = .ok (.iload_n 2, 1) := by decide +kernel
theorem dX8_free_52 : decode cX8_free 52 = .ok (.ireturn, 1) := by decide +kernel
set_option maxRecDepth 20000 in
theorem ggX8_upright_X8_needTurn : GoodIn wsX8_upright wsX8_needTurn := goodIn_ca (goodIn_r _ [5, 6, 7] (by decide +kernel) (by decide +kernel)) (goodIn_sub (fun _ h => List.mem_cons_of_mem _ (List.mem_append_right _ h)) (by decide +kernel))
set_option maxRecDepth 20000 in
theorem gX8_upright_X8_needTurn : GoodIn wsX8_upright (va_wsS RX8 240 yX8_needTurn wsX8_needTurn) := goodIn_app (goodIn_of _ (by decide +kernel)) ggX8_upright_X8_needTurn
set_option maxRecDepth 20000 in
theorem ggX8_upright_X2_directionOf : GoodIn wsX8_upright wsX2_directionOf := goodIn_r _ [12, 13, 14, 33, 34, 35, 36, 37, 38] (by decide +kernel) (by decide +kernel)
set_option maxRecDepth 20000 in
theorem gX8_upright_X2_directionOf : GoodIn wsX8_upright (wsV RX8 197 RX2 yX2_directionOf wsX2_directionOf) := goodIn_app (goodIn_of _ (by decide +kernel)) ggX8_upright_X2_directionOf
set_option maxRecDepth 20000 in
theorem ggX8_upright_X8_uprightTurn : GoodIn wsX8_upright wsX8_uprightTurn := goodIn_r _ [17] (by decide +kernel) (by decide +kernel)
set_option maxRecDepth 20000 in
theorem gX8_upright_X8_uprightTurn : GoodIn wsX8_upright (va_wsS RX8 243 yX8_uprightTurn wsX8_uprightTurn) := goodIn_app (goodIn_of _ (by decide +kernel)) ggX8_upright_X8_uprightTurn
theorem dX8_upright_0 : decode cX8_upright 0 = .ok (.iload_n 1, 1) := by decide +kernel
theorem dX8_upright_1 : decode cX8_upright 1 = .ok (.invokestatic 240, 3) := by decide +kernel
theorem dX8_upright_4 : decode cX8_upright 4 = .ok (.iconst 0, 1) := by decide +kernel
theorem dX8_upright_5 : decode cX8_upright 5 = .ok (.istore_n 2, 1) := by decide +kernel
theorem dX8_upright_6 : decode cX8_upright 6 = .ok (.iconst 0, 1) := by decide +kernel
theorem dX8_upright_7 : decode cX8_upright 7 = .ok (.istore_n 3, 1) := by decide +kernel
theorem dX8_upright_8 : decode cX8_upright 8 = .ok (.iload_n 3, 1) := by decide +kernel
theorem dX8_upright_9 : decode cX8_upright 9 = .ok (.aload_n 0, 1) := by decide +kernel
theorem dX8_upright_10 : decode cX8_upright 10 = .ok (.getfield 10, 3) := by decide +kernel
theorem dX8_upright_13 : decode cX8_upright 13 = .ok (.getfield 97, 3) := by decide +kernel
theorem dX8_upright_16 : decode cX8_upright 16 = .ok (.getfield 101, 3) := by decide +kernel
theorem dX8_upright_19 : decode cX8_upright 19 = .ok (.if_icmp .ge 43, 3) := by decide +kernel
theorem dX8_upright_22 : decode cX8_upright 22 = .ok (.aload_n 0, 1) := by decide +kernel
theorem dX8_upright_23 : decode cX8_upright 23 = .ok (.getfield 10, 3) := by decide +kernel
theorem dX8_upright_26 : decode cX8_upright 26 = .ok (.getfield 97, 3) := by decide +kernel
theorem dX8_upright_29 : decode cX8_upright 29 = .ok (.iload_n 3, 1) := by decide +kernel
theorem dX8_upright_30 : decode cX8_upright 30 = .ok (.invokevirtual 197, 3) := by decide +kernel
theorem dX8_upright_33 : decode cX8_upright 33 = .ok (.istore 4, 2) := by decide +kernel
theorem dX8_upright_35 : decode cX8_upright 35 = .ok (.iload 4, 2) := by decide +kernel
theorem dX8_upright_37 : decode cX8_upright 37 = .ok (.iconst (-1), 1) := by decide +kernel
theorem dX8_upright_38 : decode cX8_upright 38 = .ok (.if_icmp .eq 18, 3) := by decide +kernel
theorem dX8_upright_41 : decode cX8_upright 41 = .ok (.iload 4, 2) := by decide +kernel
theorem dX8_upright_43 : decode cX8_upright 43 = .ok (.invokestatic 243, 3) := by decide +kernel
theorem dX8_upright_46 : decode cX8_upright 46 = .ok (.iload_n 1, 1) := by decide +kernel
theorem dX8_upright_47 : decode cX8_upright 47 = .ok (.if_icmp .ne 9, 3) := by decide +kernel
theorem dX8_upright_50 : decode cX8_upright 50 = .ok (.iload_n 2, 1) := by decide +kernel
theorem dX8_upright_51 : decode cX8_upright 51 = .ok (.iconst 1, 1) := by decide +kernel
theorem dX8_upright_52 : decode cX8_upright 52 = .ok (.iload_n 3, 1) := by decide +kernel
theorem dX8_upright_53 : decode cX8_upright 53 = .ok (.ishl, 1) := by decide +kernel
theorem dX8_upright_54 : decode cX8_upright 54 = .ok (.ior, 1) := by decide +kernel
theorem dX8_upright_55 : decode cX8_upright 55 = .ok (.istore_n 2, 1) := by decide +kernel
theorem dX8_upright_56 : decode cX8_upright 56 = .ok (.iinc 3 1, 3) := by decide +kernel
theorem dX8_upright_59 : decode cX8_upright 59 = .ok (.goto (-51), 3) := by decide +kernel
theorem dX8_upright_62 : decode cX8_upright 62 = .ok (.iload_n 2, 1) := by decide +kernel
theorem dX8_upright_63 : decode cX8_upright 63 = .ok (.ireturn, 1) := by decide +kernel
set_option maxRecDepth 20000 in
theorem ggX8_turning_X6_turningNow : GoodIn wsX8_turning wsX6_turningNow := goodIn_r _ [6, 7, 8, 9, 10, 11, 12, 13, 14, 15, 16, 17, 18, 19, 20, 21, 22, 23, 24, 25, 26, 27, 28, 29, 30, 31, 42, 43, 44, 45, 46, 52, 53, 54, 55, 56, 57, 47, 48, 49, 50, 51] (by decide +kernel) (by decide +kernel)
set_option maxRecDepth 20000 in
theorem gX8_turning_X6_turningNow : GoodIn wsX8_turning (wsV RX8 246 RX6 yX6_turningNow wsX6_turningNow) := goodIn_app (goodIn_of _ (by decide +kernel)) ggX8_turning_X6_turningNow
theorem dX8_turning_0 : decode cX8_turning 0 = .ok (.aload_n 0, 1) := by decide +kernel
theorem dX8_turning_1 : decode cX8_turning 1 = .ok (.getfield 10, 3) := by decide +kernel
theorem dX8_turning_4 : decode cX8_turning 4 = .ok (.aload_n 0, 1) := by decide +kernel
theorem dX8_turning_5 : decode cX8_turning 5 = .ok (.getfield 10, 3) := by decide +kernel
theorem dX8_turning_8 : decode cX8_turning 8 = .ok (.getfield 137, 3) := by decide +kernel
theorem dX8_turning_11 : decode cX8_turning 11 = .ok (.getfield 144, 3) := by decide +kernel
theorem dX8_turning_14 : decode cX8_turning 14 = .ok (.invokevirtual 246, 3) := by decide +kernel
theorem dX8_turning_17 : decode cX8_turning 17 = .ok (.ireturn, 1) := by decide +kernel
set_option maxRecDepth 20000 in
theorem ggX8_turningFrom_X8_needTurn : GoodIn wsX8_turningFrom wsX8_needTurn := goodIn_ca (goodIn_r _ [5, 6, 7] (by decide +kernel) (by decide +kernel)) (goodIn_sub (fun _ h => List.mem_cons_of_mem _ (List.mem_append_right _ h)) (by decide +kernel))
set_option maxRecDepth 20000 in
theorem gX8_turningFrom_X8_needTurn : GoodIn wsX8_turningFrom (va_wsS RX8 240 yX8_needTurn wsX8_needTurn) := goodIn_app (goodIn_of _ (by decide +kernel)) ggX8_turningFrom_X8_needTurn
set_option maxRecDepth 20000 in
theorem ggX8_turningFrom_X6_turningNow : GoodIn wsX8_turningFrom wsX6_turningNow := goodIn_r _ [12, 13, 14, 15, 16, 17, 18, 19, 20, 21, 22, 23, 24, 25, 26, 4, 27, 28, 29, 30, 31, 32, 33, 34, 35, 36, 47, 48, 49, 50, 51, 52, 53, 54, 55, 56, 57, 58, 59, 60, 61, 62] (by decide +kernel) (by decide +kernel)
set_option maxRecDepth 20000 in
theorem gX8_turningFrom_X6_turningNow : GoodIn wsX8_turningFrom (wsV RX8 246 RX6 yX6_turningNow wsX6_turningNow) := goodIn_app (goodIn_of _ (by decide +kernel)) ggX8_turningFrom_X6_turningNow
theorem dX8_turningFrom_0 : decode cX8_turningFrom 0 = .ok (.iload_n 1, 1) := by decide +kernel
theorem dX8_turningFrom_1 : decode cX8_turningFrom 1 = .ok (.invokestatic 240, 3) := by decide +kernel
theorem dX8_turningFrom_4 : decode cX8_turningFrom 4 = .ok (.aload_n 0, 1) := by decide +kernel
theorem dX8_turningFrom_5 : decode cX8_turningFrom 5 = .ok (.getfield 10, 3) := by decide +kernel
theorem dX8_turningFrom_8 : decode cX8_turningFrom 8 = .ok (.iload_n 1, 1) := by decide +kernel
theorem dX8_turningFrom_9 : decode cX8_turningFrom 9 = .ok (.invokevirtual 246, 3) := by decide +kernel
theorem dX8_turningFrom_12 : decode cX8_turningFrom 12 = .ok (.ireturn, 1) := by decide +kernel
set_option maxRecDepth 20000 in
theorem ggX8_bestTurn_X6_turningNow : GoodIn wsX8_bestTurn wsX6_turningNow := goodIn_r _ [6, 7, 8, 9, 10, 11, 12, 13, 14, 15, 16, 17, 18, 19, 20, 21, 22, 23, 24, 25, 26, 27, 28, 29, 30, 31, 42, 43, 44, 45, 46, 47, 48, 49, 50, 51, 52, 53, 54, 55, 56, 57] (by decide +kernel) (by decide +kernel)
set_option maxRecDepth 20000 in
theorem gX8_bestTurn_X6_turningNow : GoodIn wsX8_bestTurn (wsV RX8 246 RX6 yX6_turningNow wsX6_turningNow) := goodIn_app (goodIn_of _ (by decide +kernel)) ggX8_bestTurn_X6_turningNow
theorem dX8_bestTurn_0 : decode cX8_bestTurn 0 = .ok (.iconst 0, 1) := by decide +kernel
theorem dX8_bestTurn_1 : decode cX8_bestTurn 1 = .ok (.istore_n 1, 1) := by decide +kernel
theorem dX8_bestTurn_2 : decode cX8_bestTurn 2 = .ok (.aload_n 0, 1) := by decide +kernel
theorem dX8_bestTurn_3 : decode cX8_bestTurn 3 = .ok (.getfield 10, 3) := by decide +kernel
theorem dX8_bestTurn_6 : decode cX8_bestTurn 6 = .ok (.iconst 0, 1) := by decide +kernel
theorem dX8_bestTurn_7 : decode cX8_bestTurn 7 = .ok (.invokevirtual 246, 3) := by decide +kernel
theorem dX8_bestTurn_10 : decode cX8_bestTurn 10 = .ok (.istore_n 2, 1) := by decide +kernel
theorem dX8_bestTurn_11 : decode cX8_bestTurn 11 = .ok (.iconst 1, 1) := by decide +kernel
theorem dX8_bestTurn_12 : decode cX8_bestTurn 12 = .ok (.istore_n 3, 1) := by decide +kernel
theorem dX8_bestTurn_13 : decode cX8_bestTurn 13 = .ok (.iload_n 3, 1) := by decide +kernel
theorem dX8_bestTurn_14 : decode cX8_bestTurn 14 = .ok (.iconst 4, 1) := by decide +kernel
theorem dX8_bestTurn_15 : decode cX8_bestTurn 15 = .ok (.if_icmp .ge 30, 3) := by decide +kernel
theorem dX8_bestTurn_18 : decode cX8_bestTurn 18 = .ok (.aload_n 0, 1) := by decide +kernel
theorem dX8_bestTurn_19 : decode cX8_bestTurn 19 = .ok (.getfield 10, 3) := by decide +kernel
theorem dX8_bestTurn_22 : decode cX8_bestTurn 22 = .ok (.iload_n 3, 1) := by decide +kernel
theorem dX8_bestTurn_23 : decode cX8_bestTurn 23 = .ok (.invokevirtual 246, 3) := by decide +kernel
theorem dX8_bestTurn_26 : decode cX8_bestTurn 26 = .ok (.istore 4, 2) := by decide +kernel
theorem dX8_bestTurn_28 : decode cX8_bestTurn 28 = .ok (.iload 4, 2) := by decide +kernel
theorem dX8_bestTurn_30 : decode cX8_bestTurn 30 = .ok (.iload_n 2, 1) := by decide +kernel
theorem dX8_bestTurn_31 : decode cX8_bestTurn 31 = .ok (.if_icmp .ge 8, 3) := by decide +kernel
theorem dX8_bestTurn_34 : decode cX8_bestTurn 34 = .ok (.iload_n 3, 1) := by decide +kernel
theorem dX8_bestTurn_35 : decode cX8_bestTurn 35 = .ok (.istore_n 1, 1) := by decide +kernel
theorem dX8_bestTurn_36 : decode cX8_bestTurn 36 = .ok (.iload 4, 2) := by decide +kernel
theorem dX8_bestTurn_38 : decode cX8_bestTurn 38 = .ok (.istore_n 2, 1) := by decide +kernel
theorem dX8_bestTurn_39 : decode cX8_bestTurn 39 = .ok (.iinc 3 1, 3) := by decide +kernel
theorem dX8_bestTurn_42 : decode cX8_bestTurn 42 = .ok (.goto (-29), 3) := by decide +kernel
theorem dX8_bestTurn_45 : decode cX8_bestTurn 45 = .ok (.iload_n 1, 1) := by decide +kernel
theorem dX8_bestTurn_46 : decode cX8_bestTurn 46 = .ok (.ireturn, 1) := by decide +kernel
set_option maxRecDepth 20000 in
theorem ggX8_hardest_X4_stopAt : GoodIn wsX8_hardest wsX4_stopAt := goodIn_r _ [6, 7, 8, 45, 46, 47, 48, 49] (by decide +kernel) (by decide +kernel)
set_option maxRecDepth 20000 in
theorem gX8_hardest_X4_stopAt : GoodIn wsX8_hardest (wsV RX8 218 RX4 yX4_stopAt wsX4_stopAt) := goodIn_app (goodIn_of _ (by decide +kernel)) ggX8_hardest_X4_stopAt
set_option maxRecDepth 20000 in
theorem ggX8_hardest_X2_directionOf : GoodIn wsX8_hardest wsX2_directionOf := goodIn_r _ [13, 14, 15, 50, 51, 52, 53, 54, 55] (by decide +kernel) (by decide +kernel)
set_option maxRecDepth 20000 in
theorem gX8_hardest_X2_directionOf : GoodIn wsX8_hardest (wsV RX8 197 RX2 yX2_directionOf wsX2_directionOf) := goodIn_app (goodIn_of _ (by decide +kernel)) ggX8_hardest_X2_directionOf
set_option maxRecDepth 20000 in
theorem ggX8_hardest_X8_uprightTurn : GoodIn wsX8_hardest wsX8_uprightTurn := goodIn_r _ [19] (by decide +kernel) (by decide +kernel)
set_option maxRecDepth 20000 in
theorem gX8_hardest_X8_uprightTurn : GoodIn wsX8_hardest (va_wsS RX8 243 yX8_uprightTurn wsX8_uprightTurn) := goodIn_app (goodIn_of _ (by decide +kernel)) ggX8_hardest_X8_uprightTurn
set_option maxRecDepth 20000 in
theorem ggX8_hardest_X8_quartersBetween : GoodIn wsX8_hardest wsX8_quartersBetween := goodIn_r _ [22, 23, 24, 25, 26, 27, 28, 29] (by decide +kernel) (by decide +kernel)
set_option maxRecDepth 20000 in
theorem gX8_hardest_X8_quartersBetween : GoodIn wsX8_hardest (va_wsS RX8 249 yX8_quartersBetween wsX8_quartersBetween) := goodIn_app (goodIn_of _ (by decide +kernel)) ggX8_hardest_X8_quartersBetween
theorem dX8_hardest_0 : decode cX8_hardest 0 = .ok (.iconst (-1), 1) := by decide +kernel
theorem dX8_hardest_1 : decode cX8_hardest 1 = .ok (.istore_n 1, 1) := by decide +kernel
theorem dX8_hardest_2 : decode cX8_hardest 2 = .ok (.iconst 0, 1) := by decide +kernel
theorem dX8_hardest_3 : decode cX8_hardest 3 = .ok (.istore_n 2, 1) := by decide +kernel
theorem dX8_hardest_4 : decode cX8_hardest 4 = .ok (.aload_n 0, 1) := by decide +kernel
theorem dX8_hardest_5 : decode cX8_hardest 5 = .ok (.getfield 10, 3) := by decide +kernel
theorem dX8_hardest_8 : decode cX8_hardest 8 = .ok (.getfield 137, 3) := by decide +kernel
theorem dX8_hardest_11 : decode cX8_hardest 11 = .ok (.getfield 144, 3) := by decide +kernel
theorem dX8_hardest_14 : decode cX8_hardest 14 = .ok (.istore_n 3, 1) := by decide +kernel
theorem dX8_hardest_15 : decode cX8_hardest 15 = .ok (.iconst 0, 1) := by decide +kernel
theorem dX8_hardest_16 : decode cX8_hardest 16 = .ok (.istore 4, 2) := by decide +kernel
theorem dX8_hardest_18 : decode cX8_hardest 18 = .ok (.iload 4, 2) := by decide +kernel
theorem dX8_hardest_20 : decode cX8_hardest 20 = .ok (.aload_n 0, 1) := by decide +kernel
theorem dX8_hardest_21 : decode cX8_hardest 21 = .ok (.getfield 10, 3) := by decide +kernel
theorem dX8_hardest_24 : decode cX8_hardest 24 = .ok (.getfield 137, 3) := by decide +kernel
theorem dX8_hardest_27 : decode cX8_hardest 27 = .ok (.getfield 141, 3) := by decide +kernel
theorem dX8_hardest_30 : decode cX8_hardest 30 = .ok (.if_icmp .ge 68, 3) := by decide +kernel
theorem dX8_hardest_33 : decode cX8_hardest 33 = .ok (.aload_n 0, 1) := by decide +kernel
theorem dX8_hardest_34 : decode cX8_hardest 34 = .ok (.getfield 10, 3) := by decide +kernel
theorem dX8_hardest_37 : decode cX8_hardest 37 = .ok (.getfield 97, 3) := by decide +kernel
theorem dX8_hardest_40 : decode cX8_hardest 40 = .ok (.aload_n 0, 1) := by decide +kernel
theorem dX8_hardest_41 : decode cX8_hardest 41 = .ok (.getfield 10, 3) := by decide +kernel
theorem dX8_hardest_44 : decode cX8_hardest 44 = .ok (.getfield 137, 3) := by decide +kernel
theorem dX8_hardest_47 : decode cX8_hardest 47 = .ok (.iload 4, 2) := by decide +kernel
theorem dX8_hardest_49 : decode cX8_hardest 49 = .ok (.invokevirtual 218, 3) := by decide +kernel
theorem dX8_hardest_52 : decode cX8_hardest 52 = .ok (.invokevirtual 197, 3) := by decide +kernel
theorem dX8_hardest_55 : decode cX8_hardest 55 = .ok (.istore 5, 2) := by decide +kernel
theorem dX8_hardest_57 : decode cX8_hardest 57 = .ok (.iload 5, 2) := by decide +kernel
theorem dX8_hardest_59 : decode cX8_hardest 59 = .ok (.iconst (-1), 1) := by decide +kernel
theorem dX8_hardest_60 : decode cX8_hardest 60 = .ok (.if_icmp .eq 32, 3) := by decide +kernel
theorem dX8_hardest_63 : decode cX8_hardest 63 = .ok (.iload_n 3, 1) := by decide +kernel
theorem dX8_hardest_64 : decode cX8_hardest 64 = .ok (.iload 5, 2) := by decide +kernel
theorem dX8_hardest_66 : decode cX8_hardest 66 = .ok (.invokestatic 243, 3) := by decide +kernel
theorem dX8_hardest_69 : decode cX8_hardest 69 = .ok (.invokestatic 249, 3) := by decide +kernel
theorem dX8_hardest_72 : decode cX8_hardest 72 = .ok (.istore 6, 2) := by decide +kernel
theorem dX8_hardest_74 : decode cX8_hardest 74 = .ok (.iload 5, 2) := by decide +kernel
theorem dX8_hardest_76 : decode cX8_hardest 76 = .ok (.invokestatic 243, 3) := by decide +kernel
theorem dX8_hardest_79 : decode cX8_hardest 79 = .ok (.istore_n 3, 1) := by decide +kernel
theorem dX8_hardest_80 : decode cX8_hardest 80 = .ok (.iload 6, 2) := by decide +kernel
theorem dX8_hardest_82 : decode cX8_hardest 82 = .ok (.iload_n 2, 1) := by decide +kernel
theorem dX8_hardest_83 : decode cX8_hardest 83 = .ok (.if_icmp .le 9, 3) := by decide +kernel
theorem dX8_hardest_86 : decode cX8_hardest 86 = .ok (.iload 4, 2) := by decide +kernel
theorem dX8_hardest_88 : decode cX8_hardest 88 = .ok (.istore_n 1, 1) := by decide +kernel
theorem dX8_hardest_89 : decode cX8_hardest 89 = .ok (.iload 6, 2) := by decide +kernel
theorem dX8_hardest_91 : decode cX8_hardest 91 = .ok (.istore_n 2, 1) := by decide +kernel
theorem dX8_hardest_92 : decode cX8_hardest 92 = .ok (.iinc 4 1, 3) := by decide +kernel
theorem dX8_hardest_95 : decode cX8_hardest 95 = .ok (.goto (-77), 3) := by decide +kernel
theorem dX8_hardest_98 : decode cX8_hardest 98 = .ok (.iload_n 1, 1) := by decide +kernel
theorem dX8_hardest_99 : decode cX8_hardest 99 = .ok (.ireturn, 1) := by decide +kernel
set_option maxRecDepth 20000 in
theorem ggX8_least_X0_findBest : GoodIn wsX8_least wsX0_findBest := goodIn_r _ [7, 8, 9, 10, 11, 12, 13, 14, 15, 16, 17, 18, 6, 19, 20, 21, 22, 23, 24, 25, 26, 27, 28, 29, 30, 31, 32, 33, 34, 35, 36, 37, 38, 39, 40, 41, 42, 43, 44, 45, 46, 47, 48, 49, 50, 51, 52, 53, 54, 55, 56, 57, 58, 59, 60, 61, 62, 63, 64, 65, 66, 67, 68, 69, 70, 71, 72, 73, 74, 75, 76, 77, 78, 79, 80, 81, 82, 83, 84, 85, 86, 87, 88, 89, 90, 91, 92, 93, 94, 95, 96, 97, 98, 99, 100, 101, 102, 103, 104, 105, 106, 107, 108, 109, 110, 111, 112, 113, 114, 115, 116, 117, 118, 119, 120, 121, 122, 123, 124, 125, 147, 148, 149, 150, 151, 152, 153, 154, 155, 156, 136, 137, 138, 139, 140, 141, 142, 143, 144, 145, 146, 157, 158, 159, 160, 161, 162, 163, 164, 165, 166, 167] (by decide +kernel) (by decide +kernel)
set_option maxRecDepth 20000 in
theorem gX8_least_X0_findBest : GoodIn wsX8_least (wsV RX8 252 RX0 yX0_findBest wsX0_findBest) := goodIn_app (goodIn_of _ (by decide +kernel)) ggX8_least_X0_findBest
theorem dX8_least_0 : decode cX8_least 0 = .ok (.aload_n 0, 1) := by decide +kernel
theorem dX8_least_1 : decode cX8_least 1 = .ok (.getfield 33, 3) := by decide +kernel
theorem dX8_least_4 : decode cX8_least 4 = .ok (.aload_n 0, 1) := by decide +kernel
theorem dX8_least_5 : decode cX8_least 5 = .ok (.getfield 10, 3) := by decide +kernel
theorem dX8_least_8 : decode cX8_least 8 = .ok (.iconst (-1), 1) := by decide +kernel
theorem dX8_least_9 : decode cX8_least 9 = .ok (.aload_n 0, 1) := by decide +kernel
theorem dX8_least_10 : decode cX8_least 10 = .ok (.getfield 10, 3) := by decide +kernel
theorem dX8_least_13 : decode cX8_least 13 = .ok (.getfield 97, 3) := by decide +kernel
theorem dX8_least_16 : decode cX8_least 16 = .ok (.getfield 134, 3) := by decide +kernel
theorem dX8_least_19 : decode cX8_least 19 = .ok (.invokevirtual 252, 3) := by decide +kernel
theorem dX8_least_22 : decode cX8_least 22 = .ok (.aload_n 0, 1) := by decide +kernel
theorem dX8_least_23 : decode cX8_least 23 = .ok (.getfield 33, 3) := by decide +kernel
theorem dX8_least_26 : decode cX8_least 26 = .ok (.getfield 256, 3) := by decide +kernel
theorem dX8_least_29 : decode cX8_least 29 = .ok (.ireturn, 1) := by decide +kernel
set_option maxRecDepth 20000 in
theorem ggX8_placedThen_X0_findBest : GoodIn wsX8_placedThen wsX0_findBest := goodIn_r _ [7, 8, 9, 10, 11, 12, 13, 14, 15, 16, 17, 18, 6, 19, 20, 21, 22, 23, 24, 25, 26, 27, 28, 29, 30, 31, 32, 33, 34, 35, 36, 37, 38, 39, 40, 41, 42, 43, 44, 45, 46, 47, 48, 49, 50, 51, 52, 53, 54, 55, 56, 57, 58, 59, 60, 61, 62, 63, 64, 65, 66, 67, 68, 69, 70, 71, 72, 73, 74, 75, 76, 77, 78, 79, 80, 81, 82, 83, 84, 85, 86, 87, 88, 89, 90, 91, 92, 93, 94, 95, 96, 97, 98, 99, 100, 101, 102, 103, 104, 105, 106, 107, 108, 109, 110, 111, 112, 113, 114, 115, 116, 117, 118, 119, 120, 121, 122, 123, 124, 125, 147, 148, 149, 150, 151, 152, 153, 154, 155, 156, 136, 137, 138, 139, 140, 141, 142, 143, 144, 145, 146, 157, 158, 159, 160, 161, 162, 163, 164, 165, 166, 167] (by decide +kernel) (by decide +kernel)
set_option maxRecDepth 20000 in
theorem gX8_placedThen_X0_findBest : GoodIn wsX8_placedThen (wsV RX8 252 RX0 yX0_findBest wsX0_findBest) := goodIn_app (goodIn_of _ (by decide +kernel)) ggX8_placedThen_X0_findBest
theorem dX8_placedThen_0 : decode cX8_placedThen 0 = .ok (.aload_n 0, 1) := by decide +kernel
theorem dX8_placedThen_1 : decode cX8_placedThen 1 = .ok (.getfield 33, 3) := by decide +kernel
theorem dX8_placedThen_4 : decode cX8_placedThen 4 = .ok (.aload_n 0, 1) := by decide +kernel
theorem dX8_placedThen_5 : decode cX8_placedThen 5 = .ok (.getfield 10, 3) := by decide +kernel
theorem dX8_placedThen_8 : decode cX8_placedThen 8 = .ok (.iconst (-1), 1) := by decide +kernel
theorem dX8_placedThen_9 : decode cX8_placedThen 9 = .ok (.aload_n 0, 1) := by decide +kernel
theorem dX8_placedThen_10 : decode cX8_placedThen 10 = .ok (.getfield 10, 3) := by decide +kernel
theorem dX8_placedThen_13 : decode cX8_placedThen 13 = .ok (.getfield 97, 3) := by decide +kernel
theorem dX8_placedThen_16 : decode cX8_placedThen 16 = .ok (.getfield 134, 3) := by decide +kernel
theorem dX8_placedThen_19 : decode cX8_placedThen 19 = .ok (.invokevirtual 252, 3) := by decide +kernel
theorem dX8_placedThen_22 : decode cX8_placedThen 22 = .ok (.aload_n 0, 1) := by decide +kernel
theorem dX8_placedThen_23 : decode cX8_placedThen 23 = .ok (.getfield 33, 3) := by decide +kernel
theorem dX8_placedThen_26 : decode cX8_placedThen 26 = .ok (.getfield 259, 3) := by decide +kernel
theorem dX8_placedThen_29 : decode cX8_placedThen 29 = .ok (.ireturn, 1) := by decide +kernel
set_option maxRecDepth 20000 in
theorem ggX8_arranged_X8_needHarbour : GoodIn wsX8_arranged wsX8_needHarbour := goodIn_ca (goodIn_r _ [7, 8, 9, 2, 136, 137, 138, 139, 140, 141, 142, 143, 144, 145, 146, 147, 148, 149, 150, 151, 152, 153, 154, 155, 156] (by decide +kernel) (by decide +kernel)) (goodIn_sub (fun _ h => List.mem_cons_of_mem _ (List.mem_append_right _ h)) (by decide +kernel))
set_option maxRecDepth 20000 in
theorem gX8_arranged_X8_needHarbour : GoodIn wsX8_arranged (wsV RX8 188 RX8 yX8_needHarbour wsX8_needHarbour) := goodIn_app (goodIn_of _ (by decide +kernel)) ggX8_arranged_X8_needHarbour
set_option maxRecDepth 20000 in
theorem ggX8_arranged_X0_findBest : GoodIn wsX8_arranged wsX0_findBest := goodIn_r _ [14, 15, 16, 17, 18, 19, 20, 21, 22, 23, 24, 25, 13, 26, 27, 28, 29, 30, 31, 32, 33, 34, 35, 36, 37, 38, 39, 40, 41, 42, 43, 44, 45, 46, 47, 48, 49, 50, 51, 52, 53, 54, 55, 56, 57, 58, 59, 60, 61, 62, 63, 64, 65, 66, 67, 68, 69, 70, 71, 72, 73, 74, 75, 76, 77, 78, 79, 80, 81, 82, 83, 84, 85, 86, 87, 88, 89, 90, 91, 92, 93, 94, 95, 96, 97, 98, 99, 100, 101, 102, 103, 104, 105, 106, 107, 108, 109, 110, 111, 112, 113, 114, 115, 116, 117, 118, 119, 120, 121, 6, 122, 123, 124, 125, 126, 127, 128, 129, 130, 131, 157, 158, 159, 160, 161, 162, 163, 164, 165, 166, 146, 147, 148, 149, 150, 151, 152, 153, 154, 155, 156, 167, 168, 169, 170, 171, 172, 173, 174, 175, 176, 177] (by decide +kernel) (by decide +kernel)
set_option maxRecDepth 20000 in
theorem gX8_arranged_X0_findBest : GoodIn wsX8_arranged (wsV RX8 252 RX0 yX0_findBest wsX0_findBest) := goodIn_app (goodIn_of _ (by decide +kernel)) ggX8_arranged_X0_findBest
set_option maxRecDepth 20000 in
theorem ggX8_arranged_X0_bestDirection : GoodIn wsX8_arranged wsX0_bestDirection := goodIn_r _ [135, 20, 157, 158, 159, 160, 161, 162, 163, 164, 165, 166] (by decide +kernel) (by decide +kernel)
set_option maxRecDepth 20000 in
theorem gX8_arranged_X0_bestDirection : GoodIn wsX8_arranged (wsV RX8 262 RX0 yX0_bestDirection wsX0_bestDirection) := goodIn_app (goodIn_of _ (by decide +kernel)) ggX8_arranged_X0_bestDirection
theorem dX8_arranged_0 : decode cX8_arranged 0 = .ok (.aload_n 0, 1) := by decide +kernel
theorem dX8_arranged_1 : decode cX8_arranged 1 = .ok (.iload_n 1, 1) := by decide +kernel
theorem dX8_arranged_2 : decode cX8_arranged 2 = .ok (.invokevirtual 188, 3) := by decide +kernel
theorem dX8_arranged_5 : decode cX8_arranged 5 = .ok (.aload_n 0, 1) := by decide +kernel
theorem dX8_arranged_6 : decode cX8_arranged 6 = .ok (.getfield 33, 3) := by decide +kernel
theorem dX8_arranged_9 : decode cX8_arranged 9 = .ok (.aload_n 0, 1) := by decide +kernel
theorem dX8_arranged_10 : decode cX8_arranged 10 = .ok (.getfield 10, 3) := by decide +kernel
theorem dX8_arranged_13 : decode cX8_arranged 13 = .ok (.iconst (-1), 1) := by decide +kernel
theorem dX8_arranged_14 : decode cX8_arranged 14 = .ok (.aload_n 0, 1) := by decide +kernel
theorem dX8_arranged_15 : decode cX8_arranged 15 = .ok (.getfield 10, 3) := by decide +kernel
theorem dX8_arranged_18 : decode cX8_arranged 18 = .ok (.getfield 97, 3) := by decide +kernel
theorem dX8_arranged_21 : decode cX8_arranged 21 = .ok (.getfield 134, 3) := by decide +kernel
theorem dX8_arranged_24 : decode cX8_arranged 24 = .ok (.invokevirtual 252, 3) := by decide +kernel
theorem dX8_arranged_27 : decode cX8_arranged 27 = .ok (.aload_n 0, 1) := by decide +kernel
theorem dX8_arranged_28 : decode cX8_arranged 28 = .ok (.getfield 33, 3) := by decide +kernel
theorem dX8_arranged_31 : decode cX8_arranged 31 = .ok (.iload_n 1, 1) := by decide +kernel
theorem dX8_arranged_32 : decode cX8_arranged 32 = .ok (.invokevirtual 262, 3) := by decide +kernel
theorem dX8_arranged_35 : decode cX8_arranged 35 = .ok (.ireturn, 1) := by decide +kernel
set_option maxRecDepth 20000 in
theorem ggX8_leastIf_X8_needHarbour : GoodIn wsX8_leastIf wsX8_needHarbour := goodIn_ca (goodIn_r _ [7, 8, 9, 2, 137, 138, 139, 140, 141, 142, 143, 144, 145, 146, 147, 148, 149, 150, 151, 162, 163, 164, 165, 166, 167] (by decide +kernel) (by decide +kernel)) (goodIn_sub (fun _ h => List.mem_cons_of_mem _ (List.mem_append_right _ h)) (by decide +kernel))
set_option maxRecDepth 20000 in
theorem gX8_leastIf_X8_needHarbour : GoodIn wsX8_leastIf (wsV RX8 188 RX8 yX8_needHarbour wsX8_needHarbour) := goodIn_app (goodIn_of _ (by decide +kernel)) ggX8_leastIf_X8_needHarbour
set_option maxRecDepth 20000 in
theorem ggX8_leastIf_X2_redsIf : GoodIn wsX8_leastIf wsX2_redsIf := goodIn_r _ [14, 15, 162, 163, 164, 165, 166, 167] (by decide +kernel) (by decide +kernel)
set_option maxRecDepth 20000 in
theorem gX8_leastIf_X2_redsIf : GoodIn wsX8_leastIf (wsV RX8 265 RX2 yX2_redsIf wsX2_redsIf) := goodIn_app (goodIn_of _ (by decide +kernel)) ggX8_leastIf_X2_redsIf
set_option maxRecDepth 20000 in
theorem ggX8_leastIf_X0_findBest : GoodIn wsX8_leastIf wsX0_findBest := goodIn_r _ [20, 21, 22, 23, 24, 25, 26, 27, 28, 29, 30, 31, 19, 32, 33, 34, 35, 36, 37, 38, 39, 40, 41, 42, 13, 43, 44, 45, 46, 47, 48, 49, 50, 51, 52, 53, 54, 55, 56, 57, 58, 59, 60, 61, 62, 63, 64, 65, 66, 67, 68, 69, 70, 71, 72, 73, 74, 75, 76, 77, 78, 79, 80, 81, 82, 83, 84, 85, 86, 87, 88, 89, 90, 91, 92, 93, 94, 95, 96, 97, 98, 99, 100, 101, 102, 103, 104, 105, 106, 107, 108, 109, 110, 111, 112, 113, 114, 115, 116, 117, 118, 119, 120, 121, 122, 123, 124, 125, 126, 6, 127, 128, 129, 130, 131, 132, 133, 134, 135, 136, 152, 153, 154, 155, 156, 157, 158, 159, 160, 161, 147, 148, 149, 150, 151, 162, 163, 164, 165, 166, 167, 168, 169, 170, 171, 172, 173, 174, 175, 176, 177, 178] (by decide +kernel) (by decide +kernel)
set_option maxRecDepth 20000 in
theorem gX8_leastIf_X0_findBest : GoodIn wsX8_leastIf (wsV RX8 252 RX0 yX0_findBest wsX0_findBest) := goodIn_app (goodIn_of _ (by decide +kernel)) ggX8_leastIf_X0_findBest
theorem dX8_leastIf_0 : decode cX8_leastIf 0 = .ok (.aload_n 0, 1) := by decide +kernel
theorem dX8_leastIf_1 : decode cX8_leastIf 1 = .ok (.iload_n 1, 1) := by decide +kernel
theorem dX8_leastIf_2 : decode cX8_leastIf 2 = .ok (.invokevirtual 188, 3) := by decide +kernel
theorem dX8_leastIf_5 : decode cX8_leastIf 5 = .ok (.aload_n 0, 1) := by decide +kernel
theorem dX8_leastIf_6 : decode cX8_leastIf 6 = .ok (.getfield 33, 3) := by decide +kernel
theorem dX8_leastIf_9 : decode cX8_leastIf 9 = .ok (.aload_n 0, 1) := by decide +kernel
theorem dX8_leastIf_10 : decode cX8_leastIf 10 = .ok (.getfield 10, 3) := by decide +kernel
theorem dX8_leastIf_13 : decode cX8_leastIf 13 = .ok (.iconst (-1), 1) := by decide +kernel
theorem dX8_leastIf_14 : decode cX8_leastIf 14 = .ok (.aload_n 0, 1) := by decide +kernel
theorem dX8_leastIf_15 : decode cX8_leastIf 15 = .ok (.getfield 10, 3) := by decide +kernel
theorem dX8_leastIf_18 : decode cX8_leastIf 18 = .ok (.getfield 97, 3) := by decide +kernel
theorem dX8_leastIf_21 : decode cX8_leastIf 21 = .ok (.iload_n 1, 1) := by decide +kernel
theorem dX8_leastIf_22 : decode cX8_leastIf 22 = .ok (.iload_n 2, 1) := by decide +kernel
theorem dX8_leastIf_23 : decode cX8_leastIf 23 = .ok (.invokevirtual 265, 3) := by decide +kernel
theorem dX8_leastIf_26 : decode cX8_leastIf 26 = .ok (.invokevirtual 252, 3) := by decide +kernel
theorem dX8_leastIf_29 : decode cX8_leastIf 29 = .ok (.aload_n 0, 1) := by decide +kernel
theorem dX8_leastIf_30 : decode cX8_leastIf 30 = .ok (.getfield 33, 3) := by decide +kernel
theorem dX8_leastIf_33 : decode cX8_leastIf 33 = .ok (.getfield 256, 3) := by decide +kernel
theorem dX8_leastIf_36 : decode cX8_leastIf 36 = .ok (.ireturn, 1) := by decide +kernel
set_option maxRecDepth 20000 in
theorem ggX8_placedIf_X8_needHarbour : GoodIn wsX8_placedIf wsX8_needHarbour := goodIn_ca (goodIn_r _ [7, 8, 9, 2, 137, 138, 139, 140, 141, 142, 143, 144, 145, 146, 147, 148, 149, 150, 151, 162, 163, 164, 165, 166, 167] (by decide +kernel) (by decide +kernel)) (goodIn_sub (fun _ h => List.mem_cons_of_mem _ (List.mem_append_right _ h)) (by decide +kernel))
set_option maxRecDepth 20000 in
theorem gX8_placedIf_X8_needHarbour : GoodIn wsX8_placedIf (wsV RX8 188 RX8 yX8_needHarbour wsX8_needHarbour) := goodIn_app (goodIn_of _ (by decide +kernel)) ggX8_placedIf_X8_needHarbour
set_option maxRecDepth 20000 in
theorem ggX8_placedIf_X2_redsIf : GoodIn wsX8_placedIf wsX2_redsIf := goodIn_r _ [14, 15, 162, 163, 164, 165, 166, 167] (by decide +kernel) (by decide +kernel)
set_option maxRecDepth 20000 in
theorem gX8_placedIf_X2_redsIf : GoodIn wsX8_placedIf (wsV RX8 265 RX2 yX2_redsIf wsX2_redsIf) := goodIn_app (goodIn_of _ (by decide +kernel)) ggX8_placedIf_X2_redsIf
set_option maxRecDepth 20000 in
theorem ggX8_placedIf_X0_findBest : GoodIn wsX8_placedIf wsX0_findBest := goodIn_r _ [20, 21, 22, 23, 24, 25, 26, 27, 28, 29, 30, 31, 19, 32, 33, 34, 35, 36, 37, 38, 39, 40, 41, 42, 13, 43, 44, 45, 46, 47, 48, 49, 50, 51, 52, 53, 54, 55, 56, 57, 58, 59, 60, 61, 62, 63, 64, 65, 66, 67, 68, 69, 70, 71, 72, 73, 74, 75, 76, 77, 78, 79, 80, 81, 82, 83, 84, 85, 86, 87, 88, 89, 90, 91, 92, 93, 94, 95, 96, 97, 98, 99, 100, 101, 102, 103, 104, 105, 106, 107, 108, 109, 110, 111, 112, 113, 114, 115, 116, 117, 118, 119, 120, 121, 122, 123, 124, 125, 126, 6, 127, 128, 129, 130, 131, 132, 133, 134, 135, 136, 152, 153, 154, 155, 156, 157, 158, 159, 160, 161, 147, 148, 149, 150, 151, 162, 163, 164, 165, 166, 167, 168, 169, 170, 171, 172, 173, 174, 175, 176, 177, 178] (by decide +kernel) (by decide +kernel)
set_option maxRecDepth 20000 in
theorem gX8_placedIf_X0_findBest : GoodIn wsX8_placedIf (wsV RX8 252 RX0 yX0_findBest wsX0_findBest) := goodIn_app (goodIn_of _ (by decide +kernel)) ggX8_placedIf_X0_findBest
theorem dX8_placedIf_0 : decode cX8_placedIf 0 = .ok (.aload_n 0, 1) := by decide +kernel
theorem dX8_placedIf_1 : decode cX8_placedIf 1 = .ok (.iload_n 1, 1) := by decide +kernel
theorem dX8_placedIf_2 : decode cX8_placedIf 2 = .ok (.invokevirtual 188, 3) := by decide +kernel
theorem dX8_placedIf_5 : decode cX8_placedIf 5 = .ok (.aload_n 0, 1) := by decide +kernel
theorem dX8_placedIf_6 : decode cX8_placedIf 6 = .ok (.getfield 33, 3) := by decide +kernel
theorem dX8_placedIf_9 : decode cX8_placedIf 9 = .ok (.aload_n 0, 1) := by decide +kernel
theorem dX8_placedIf_10 : decode cX8_placedIf 10 = .ok (.getfield 10, 3) := by decide +kernel
theorem dX8_placedIf_13 : decode cX8_placedIf 13 = .ok (.iconst (-1), 1) := by decide +kernel
theorem dX8_placedIf_14 : decode cX8_placedIf 14 = .ok (.aload_n 0, 1) := by decide +kernel
theorem dX8_placedIf_15 : decode cX8_placedIf 15 = .ok (.getfield 10, 3) := by decide +kernel
theorem dX8_placedIf_18 : decode cX8_placedIf 18 = .ok (.getfield 97, 3) := by decide +kernel
theorem dX8_placedIf_21 : decode cX8_placedIf 21 = .ok (.iload_n 1, 1) := by decide +kernel
theorem dX8_placedIf_22 : decode cX8_placedIf 22 = .ok (.iload_n 2, 1) := by decide +kernel
theorem dX8_placedIf_23 : decode cX8_placedIf 23 = .ok (.invokevirtual 265, 3) := by decide +kernel
theorem dX8_placedIf_26 : decode cX8_placedIf 26 = .ok (.invokevirtual 252, 3) := by decide +kernel
theorem dX8_placedIf_29 : decode cX8_placedIf 29 = .ok (.aload_n 0, 1) := by decide +kernel
theorem dX8_placedIf_30 : decode cX8_placedIf 30 = .ok (.getfield 33, 3) := by decide +kernel
theorem dX8_placedIf_33 : decode cX8_placedIf 33 = .ok (.getfield 259, 3) := by decide +kernel
theorem dX8_placedIf_36 : decode cX8_placedIf 36 = .ok (.ireturn, 1) := by decide +kernel
set_option maxRecDepth 20000 in
theorem ggX8_shy_X0_findBest : GoodIn wsX8_shy wsX0_findBest := goodIn_r _ [7, 8, 9, 10, 11, 12, 13, 14, 15, 16, 17, 18, 6, 19, 20, 21, 22, 23, 24, 25, 26, 27, 28, 29, 30, 31, 32, 33, 34, 35, 36, 37, 38, 39, 40, 41, 42, 43, 44, 45, 46, 47, 48, 49, 50, 51, 52, 53, 54, 55, 56, 57, 58, 59, 60, 61, 62, 63, 64, 65, 66, 67, 68, 69, 70, 71, 72, 73, 74, 75, 76, 77, 78, 79, 80, 81, 82, 83, 84, 85, 86, 87, 88, 89, 90, 91, 92, 93, 94, 95, 96, 97, 98, 99, 100, 101, 102, 103, 104, 105, 106, 107, 108, 109, 110, 111, 112, 113, 114, 115, 116, 117, 118, 119, 120, 121, 122, 123, 124, 125, 147, 148, 149, 150, 151, 152, 153, 154, 155, 156, 136, 137, 138, 139, 140, 141, 142, 143, 144, 145, 146, 157, 158, 159, 160, 161, 162, 163, 164, 165, 166, 167] (by decide +kernel) (by decide +kernel)
set_option maxRecDepth 20000 in
theorem gX8_shy_X0_findBest : GoodIn wsX8_shy (wsV RX8 252 RX0 yX0_findBest wsX0_findBest) := goodIn_app (goodIn_of _ (by decide +kernel)) ggX8_shy_X0_findBest
theorem dX8_shy_0 : decode cX8_shy 0 = .ok (.aload_n 0, 1) := by decide +kernel
theorem dX8_shy_1 : decode cX8_shy 1 = .ok (.getfield 10, 3) := by decide +kernel
theorem dX8_shy_4 : decode cX8_shy 4 = .ok (.getfield 97, 3) := by decide +kernel
theorem dX8_shy_7 : decode cX8_shy 7 = .ok (.getfield 101, 3) := by decide +kernel
theorem dX8_shy_10 : decode cX8_shy 10 = .ok (.iconst 1, 1) := by decide +kernel
theorem dX8_shy_11 : decode cX8_shy 11 = .ok (.isub, 1) := by decide +kernel
theorem dX8_shy_12 : decode cX8_shy 12 = .ok (.istore_n 1, 1) := by decide +kernel
theorem dX8_shy_13 : decode cX8_shy 13 = .ok (.iconst 0, 1) := by decide +kernel
theorem dX8_shy_14 : decode cX8_shy 14 = .ok (.istore_n 2, 1) := by decide +kernel
theorem dX8_shy_15 : decode cX8_shy 15 = .ok (.iconst 0, 1) := by decide +kernel
theorem dX8_shy_16 : decode cX8_shy 16 = .ok (.istore_n 3, 1) := by decide +kernel
theorem dX8_shy_17 : decode cX8_shy 17 = .ok (.iload_n 3, 1) := by decide +kernel
theorem dX8_shy_18 : decode cX8_shy 18 = .ok (.aload_n 0, 1) := by decide +kernel
theorem dX8_shy_19 : decode cX8_shy 19 = .ok (.getfield 10, 3) := by decide +kernel
theorem dX8_shy_22 : decode cX8_shy 22 = .ok (.getfield 97, 3) := by decide +kernel
theorem dX8_shy_25 : decode cX8_shy 25 = .ok (.getfield 101, 3) := by decide +kernel
theorem dX8_shy_28 : decode cX8_shy 28 = .ok (.if_icmp .ge 48, 3) := by decide +kernel
theorem dX8_shy_31 : decode cX8_shy 31 = .ok (.aload_n 0, 1) := by decide +kernel
theorem dX8_shy_32 : decode cX8_shy 32 = .ok (.getfield 33, 3) := by decide +kernel
theorem dX8_shy_35 : decode cX8_shy 35 = .ok (.aload_n 0, 1) := by decide +kernel
theorem dX8_shy_36 : decode cX8_shy 36 = .ok (.getfield 10, 3) := by decide +kernel
theorem dX8_shy_39 : decode cX8_shy 39 = .ok (.iload_n 3, 1) := by decide +kernel
theorem dX8_shy_40 : decode cX8_shy 40 = .ok (.aload_n 0, 1) := by decide +kernel
theorem dX8_shy_41 : decode cX8_shy 41 = .ok (.getfield 10, 3) := by decide +kernel
theorem dX8_shy_44 : decode cX8_shy 44 = .ok (.getfield 97, 3) := by decide +kernel
theorem dX8_shy_47 : decode cX8_shy 47 = .ok (.getfield 134, 3) := by decide +kernel
theorem dX8_shy_50 : decode cX8_shy 50 = .ok (.invokevirtual 252, 3) := by decide +kernel
theorem dX8_shy_53 : decode cX8_shy 53 = .ok (.aload_n 0, 1) := by decide +kernel
theorem dX8_shy_54 : decode cX8_shy 54 = .ok (.getfield 33, 3) := by decide +kernel
theorem dX8_shy_57 : decode cX8_shy 57 = .ok (.getfield 259, 3) := by decide +kernel
theorem dX8_shy_60 : decode cX8_shy 60 = .ok (.iload_n 1, 1) := by decide +kernel
theorem dX8_shy_61 : decode cX8_shy 61 = .ok (.if_icmp .ne 9, 3) := by decide +kernel
theorem dX8_shy_64 : decode cX8_shy 64 = .ok (.iload_n 2, 1) := by decide +kernel
theorem dX8_shy_65 : decode cX8_shy 65 = .ok (.iconst 1, 1) := by decide +kernel
theorem dX8_shy_66 : decode cX8_shy 66 = .ok (.iload_n 3, 1) := by decide +kernel
theorem dX8_shy_67 : decode cX8_shy 67 = .ok (.ishl, 1) := by decide +kernel
theorem dX8_shy_68 : decode cX8_shy 68 = .ok (.ior, 1) := by decide +kernel
theorem dX8_shy_69 : decode cX8_shy 69 = .ok (.istore_n 2, 1) := by decide +kernel
theorem dX8_shy_70 : decode cX8_shy 70 = .ok (.iinc 3 1, 3) := by decide +kernel
theorem dX8_shy_73 : decode cX8_shy 73 = .ok (.goto (-56), 3) := by decide +kernel
theorem dX8_shy_76 : decode cX8_shy 76 = .ok (.iload_n 2, 1) := by decide +kernel
theorem dX8_shy_77 : decode cX8_shy 77 = .ok (.ireturn, 1) := by decide +kernel
set_option maxRecDepth 20000 in
theorem ggX8_wayLength_X8_needCell : GoodIn wsX8_wayLength wsX8_needCell := goodIn_ca (goodIn_r _ [5, 6, 7, 8, 9, 10, 11, 12, 13, 14, 15, 91, 92, 93, 94, 95, 96, 97, 98, 99, 100, 101, 102, 103, 104, 105, 106, 107, 108, 109, 110, 111] (by decide +kernel) (by decide +kernel)) (goodIn_sub (fun _ h => List.mem_cons_of_mem _ (List.mem_append_right _ h)) (by decide +kernel))
set_option maxRecDepth 20000 in
theorem gX8_wayLength_X8_needCell : GoodIn wsX8_wayLength (wsV RX8 161 RX8 yX8_needCell wsX8_needCell) := goodIn_app (goodIn_of _ (by decide +kernel)) ggX8_wayLength_X8_needCell
set_option maxRecDepth 20000 in
theorem ggX8_wayLength_X8_wayFrom : GoodIn wsX8_wayLength wsX8_wayFrom := goodIn_r _ [19, 20, 8, 21, 22, 23, 24, 25, 26, 27, 28, 29, 30, 31, 32, 10, 11, 12, 13, 14, 15, 33, 34, 35, 36, 37, 38, 39, 40, 41, 42, 43, 44, 45, 46, 47, 48, 49, 50, 51, 52, 53, 54, 55, 56, 57, 58, 59, 60, 61, 62, 63, 64, 65, 66, 67, 68, 69, 70, 71, 72, 73, 74, 75, 76, 77, 78, 79, 80, 81, 82, 83, 84, 85, 86, 87, 88, 89, 90, 91, 92, 93, 94, 95, 96, 97, 98, 99, 100, 101, 102, 103, 104, 105, 112, 113, 114, 115, 106, 107, 108, 109, 110, 111, 116, 117, 118, 119, 120, 121] (by decide +kernel) (by decide +kernel)
set_option maxRecDepth 20000 in
theorem gX8_wayLength_X8_wayFrom : GoodIn wsX8_wayLength (wsV RX8 269 RX8 yX8_wayFrom wsX8_wayFrom) := goodIn_app (goodIn_of _ (by decide +kernel)) ggX8_wayLength_X8_wayFrom
theorem dX8_wayLength_0 : decode cX8_wayLength 0 = .ok (.aload_n 0, 1) := by decide +kernel
theorem dX8_wayLength_1 : decode cX8_wayLength 1 = .ok (.iload_n 1, 1) := by decide +kernel
theorem dX8_wayLength_2 : decode cX8_wayLength 2 = .ok (.invokevirtual 161, 3) := by decide +kernel
theorem dX8_wayLength_5 : decode cX8_wayLength 5 = .ok (.aload_n 0, 1) := by decide +kernel
theorem dX8_wayLength_6 : decode cX8_wayLength 6 = .ok (.iload_n 1, 1) := by decide +kernel
theorem dX8_wayLength_7 : decode cX8_wayLength 7 = .ok (.invokevirtual 269, 3) := by decide +kernel
theorem dX8_wayLength_10 : decode cX8_wayLength 10 = .ok (.istore_n 2, 1) := by decide +kernel
theorem dX8_wayLength_11 : decode cX8_wayLength 11 = .ok (.iload_n 2, 1) := by decide +kernel
theorem dX8_wayLength_12 : decode cX8_wayLength 12 = .ok (.ifCond .ne 8, 3) := by decide +kernel
theorem dX8_wayLength_15 : decode cX8_wayLength 15 = .ok (.bipush (-3), 2) := by decide +kernel
theorem dX8_wayLength_17 : decode cX8_wayLength 17 = .ok (.goto 4, 3) := by decide +kernel
theorem dX8_wayLength_20 : decode cX8_wayLength 20 = .ok (.iload_n 2, 1) := by decide +kernel
theorem dX8_wayLength_21 : decode cX8_wayLength 21 = .ok (.ireturn, 1) := by decide +kernel
set_option maxRecDepth 20000 in
theorem ggX8_wayCell_X8_needCell : GoodIn wsX8_wayCell wsX8_needCell := goodIn_ca (goodIn_r _ [6, 7, 8, 9, 10, 11, 12, 13, 14, 15, 16, 95, 96, 97, 98, 99, 100, 101, 102, 103, 104, 105, 106, 107, 108, 109, 110, 111, 112, 113, 114, 115] (by decide +kernel) (by decide +kernel)) (goodIn_sub (fun _ h => List.mem_cons_of_mem _ (List.mem_append_right _ h)) (by decide +kernel))
set_option maxRecDepth 20000 in
theorem gX8_wayCell_X8_needCell : GoodIn wsX8_wayCell (wsV RX8 161 RX8 yX8_needCell wsX8_needCell) := goodIn_app (goodIn_of _ (by decide +kernel)) ggX8_wayCell_X8_needCell
set_option maxRecDepth 20000 in
theorem ggX8_wayCell_X8_wayFrom : GoodIn wsX8_wayCell wsX8_wayFrom := goodIn_r _ [20, 1, 9, 21, 22, 23, 24, 25, 26, 27, 28, 29, 30, 31, 32, 11, 12, 13, 14, 15, 16, 33, 34, 35, 36, 37, 38, 39, 40, 41, 42, 43, 44, 45, 46, 47, 48, 49, 50, 51, 52, 53, 54, 55, 56, 57, 58, 59, 60, 61, 62, 63, 64, 65, 66, 67, 68, 69, 70, 71, 72, 73, 74, 75, 76, 77, 78, 79, 80, 81, 82, 83, 84, 85, 86, 87, 88, 89, 90, 95, 96, 97, 98, 99, 100, 101, 102, 103, 104, 105, 106, 107, 108, 109, 116, 117, 118, 119, 110, 111, 112, 113, 114, 115, 120, 121, 122, 123, 124, 125] (by decide +kernel) (by decide +kernel)
set_option maxRecDepth 20000 in
theorem gX8_wayCell_X8_wayFrom : GoodIn wsX8_wayCell (wsV RX8 269 RX8 yX8_wayFrom wsX8_wayFrom) := goodIn_app (goodIn_of _ (by decide +kernel)) ggX8_wayCell_X8_wayFrom
set_option maxRecDepth 20000 in
theorem ggX8_wayCell_X7_wayAt : GoodIn wsX8_wayCell wsX7_wayAt := goodIn_r _ [94, 85, 86, 116, 117, 118, 119] (by decide +kernel) (by decide +kernel)
set_option maxRecDepth 20000 in
theorem gX8_wayCell_X7_wayAt : GoodIn wsX8_wayCell (wsV RX8 272 RX7 yX7_wayAt wsX7_wayAt) := goodIn_app (goodIn_of _ (by decide +kernel)) ggX8_wayCell_X7_wayAt
theorem dX8_wayCell_0 : decode cX8_wayCell 0 = .ok (.aload_n 0, 1) := by decide +kernel
theorem dX8_wayCell_1 : decode cX8_wayCell 1 = .ok (.iload_n 1, 1) := by decide +kernel
theorem dX8_wayCell_2 : decode cX8_wayCell 2 = .ok (.invokevirtual 161, 3) := by decide +kernel
theorem dX8_wayCell_5 : decode cX8_wayCell 5 = .ok (.aload_n 0, 1) := by decide +kernel
theorem dX8_wayCell_6 : decode cX8_wayCell 6 = .ok (.iload_n 1, 1) := by decide +kernel
theorem dX8_wayCell_7 : decode cX8_wayCell 7 = .ok (.invokevirtual 269, 3) := by decide +kernel
theorem dX8_wayCell_10 : decode cX8_wayCell 10 = .ok (.pop, 1) := by decide +kernel
theorem dX8_wayCell_11 : decode cX8_wayCell 11 = .ok (.aload_n 0, 1) := by decide +kernel
theorem dX8_wayCell_12 : decode cX8_wayCell 12 = .ok (.getfield 26, 3) := by decide +kernel
theorem dX8_wayCell_15 : decode cX8_wayCell 15 = .ok (.iload_n 2, 1) := by decide +kernel
theorem dX8_wayCell_16 : decode cX8_wayCell 16 = .ok (.invokevirtual 272, 3) := by decide +kernel
theorem dX8_wayCell_19 : decode cX8_wayCell 19 = .ok (.ireturn, 1) := by decide +kernel
set_option maxRecDepth 20000 in
theorem ggX8_washes_X8_needCell : GoodIn wsX8_washes wsX8_needCell := goodIn_ca (goodIn_r _ [7, 8, 9, 2, 10, 11, 12, 13, 14, 15, 16, 99, 100, 101, 102, 103, 104, 105, 106, 107, 108, 109, 110, 111, 112, 113, 114, 115, 116, 117, 118, 119] (by decide +kernel) (by decide +kernel)) (goodIn_sub (fun _ h => List.mem_cons_of_mem _ (List.mem_append_right _ h)) (by decide +kernel))
set_option maxRecDepth 20000 in
theorem gX8_washes_X8_needCell : GoodIn wsX8_washes (wsV RX8 161 RX8 yX8_needCell wsX8_needCell) := goodIn_app (goodIn_of _ (by decide +kernel)) ggX8_washes_X8_needCell
set_option maxRecDepth 20000 in
theorem ggX8_washes_X8_wayFrom : GoodIn wsX8_washes wsX8_wayFrom := goodIn_r _ [20, 1, 2, 21, 22, 23, 24, 25, 26, 27, 28, 29, 30, 31, 32, 11, 12, 13, 14, 15, 16, 33, 34, 35, 36, 37, 38, 39, 40, 41, 42, 43, 44, 45, 46, 47, 48, 49, 50, 51, 52, 53, 54, 55, 56, 57, 58, 59, 60, 61, 62, 63, 64, 65, 66, 67, 68, 69, 70, 71, 72, 73, 74, 75, 76, 77, 78, 79, 80, 81, 82, 83, 84, 85, 86, 87, 88, 89, 90, 99, 100, 101, 102, 103, 104, 105, 106, 107, 108, 109, 110, 111, 112, 113, 120, 121, 122, 123, 114, 115, 116, 117, 118, 119, 124, 125, 126, 127, 128, 129] (by decide +kernel) (by decide +kernel)
set_option maxRecDepth 20000 in
theorem gX8_washes_X8_wayFrom : GoodIn wsX8_washes (wsV RX8 269 RX8 yX8_wayFrom wsX8_wayFrom) := goodIn_app (goodIn_of _ (by decide +kernel)) ggX8_washes_X8_wayFrom
set_option maxRecDepth 20000 in
theorem ggX8_washes_X7_namesOnWay : GoodIn wsX8_washes wsX7_namesOnWay := goodIn_r _ [94, 85, 95, 96, 97, 24, 98, 86, 57, 58, 59, 36, 60, 61, 120, 121, 122, 123, 109, 110, 111, 112, 113] (by decide +kernel) (by decide +kernel)
set_option maxRecDepth 20000 in
theorem gX8_washes_X7_namesOnWay : GoodIn wsX8_washes (wsV RX8 275 RX7 yX7_namesOnWay wsX7_namesOnWay) := goodIn_app (goodIn_of _ (by decide +kernel)) ggX8_washes_X7_namesOnWay
theorem dX8_washes_0 : decode cX8_washes 0 = .ok (.aload_n 0, 1) := by decide +kernel
theorem dX8_washes_1 : decode cX8_washes 1 = .ok (.iload_n 1, 1) := by decide +kernel
theorem dX8_washes_2 : decode cX8_washes 2 = .ok (.invokevirtual 161, 3) := by decide +kernel
theorem dX8_washes_5 : decode cX8_washes 5 = .ok (.aload_n 0, 1) := by decide +kernel
theorem dX8_washes_6 : decode cX8_washes 6 = .ok (.iload_n 1, 1) := by decide +kernel
theorem dX8_washes_7 : decode cX8_washes 7 = .ok (.invokevirtual 269, 3) := by decide +kernel
theorem dX8_washes_10 : decode cX8_washes 10 = .ok (.pop, 1) := by decide +kernel
theorem dX8_washes_11 : decode cX8_washes 11 = .ok (.aload_n 0, 1) := by decide +kernel
theorem dX8_washes_12 : decode cX8_washes 12 = .ok (.getfield 26, 3) := by decide +kernel
theorem dX8_washes_15 : decode cX8_washes 15 = .ok (.aload_n 0, 1) := by decide +kernel
theorem dX8_washes_16 : decode cX8_washes 16 = .ok (.getfield 10, 3) := by decide +kernel
theorem dX8_washes_19 : decode cX8_washes 19 = .ok (.invokevirtual 275, 3) := by decide +kernel
theorem dX8_washes_22 : decode cX8_washes 22 = .ok (.ireturn, 1) := by decide +kernel
set_option maxRecDepth 20000 in
theorem ggX8_mildest_X7_survey : GoodIn wsX8_mildest wsX7_survey := goodIn_r _ [7, 8, 9, 10, 11, 12, 13, 14, 15, 16, 17, 18, 19, 20, 21, 22, 23, 24, 25, 26, 27, 28, 29, 30, 31, 32, 33, 34, 35, 36, 37, 38, 39, 40, 41, 42, 43, 44, 45, 46, 47, 48, 49, 50, 51, 52, 53, 54, 55, 56, 57, 58, 59, 60, 61, 62, 6, 63, 64, 65, 66, 67, 68, 105, 106, 107, 108, 109, 110, 111, 112, 113, 114, 115, 116, 117, 118, 119, 120, 121, 122, 123, 124, 125] (by decide +kernel) (by decide +kernel)
set_option maxRecDepth 20000 in
theorem gX8_mildest_X7_survey : GoodIn wsX8_mildest (wsV RX8 279 RX7 yX7_survey wsX7_survey) := goodIn_app (goodIn_of _ (by decide +kernel)) ggX8_mildest_X7_survey
set_option maxRecDepth 20000 in
theorem ggX8_mildest_X1_cells : GoodIn wsX8_mildest wsX1_cells := goodIn_r _ [18, 19, 20, 114, 115, 116, 117, 118, 119] (by decide +kernel) (by decide +kernel)
set_option maxRecDepth 20000 in
theorem gX8_mildest_X1_cells : GoodIn wsX8_mildest (wsV RX8 237 RX1 yX1_cells wsX1_cells) := goodIn_app (goodIn_of _ (by decide +kernel)) ggX8_mildest_X1_cells
set_option maxRecDepth 20000 in
theorem ggX8_mildest_X7_trace : GoodIn wsX8_mildest wsX7_trace := goodIn_r _ [73, 74, 75, 13, 12, 65, 66, 67, 6, 68, 76, 77, 78, 79, 64, 55, 56, 17, 57, 19, 20, 110, 111, 112, 113, 114, 115, 116, 117, 118, 119] (by decide +kernel) (by decide +kernel)
set_option maxRecDepth 20000 in
theorem gX8_mildest_X7_trace : GoodIn wsX8_mildest (wsV RX8 282 RX7 yX7_trace wsX7_trace) := goodIn_app (goodIn_of _ (by decide +kernel)) ggX8_mildest_X7_trace
set_option maxRecDepth 20000 in
theorem ggX8_mildest_X7_namesOnWay : GoodIn wsX8_mildest wsX7_namesOnWay := goodIn_r _ [83, 74, 84, 85, 86, 6, 87, 75, 45, 46, 47, 24, 48, 49, 110, 111, 112, 113, 105, 106, 107, 108, 109] (by decide +kernel) (by decide +kernel)
set_option maxRecDepth 20000 in
theorem gX8_mildest_X7_namesOnWay : GoodIn wsX8_mildest (wsV RX8 275 RX7 yX7_namesOnWay wsX7_namesOnWay) := goodIn_app (goodIn_of _ (by decide +kernel)) ggX8_mildest_X7_namesOnWay
set_option maxRecDepth 20000 in
theorem ggX8_mildest_J6_bitCount_0f7a4 : GoodIn wsX8_mildest wsJ6_bitCount_0f7a4 := goodIn_r _ [91, 92, 93, 94] (by decide +kernel) (by decide +kernel)
set_option maxRecDepth 20000 in
theorem gX8_mildest_J6_bitCount_0f7a4 : GoodIn wsX8_mildest (va_wsS RX8 128 yJ6_bitCount_0f7a4 wsJ6_bitCount_0f7a4) := goodIn_app (goodIn_of _ (by decide +kernel)) ggX8_mildest_J6_bitCount_0f7a4
theorem dX8_mildest_0 : decode cX8_mildest 0 = .ok (.aload_n 0, 1) := by decide +kernel
theorem dX8_mildest_1 : decode cX8_mildest 1 = .ok (.getfield 26, 3) := by decide +kernel
theorem dX8_mildest_4 : decode cX8_mildest 4 = .ok (.aload_n 0, 1) := by decide +kernel
theorem dX8_mildest_5 : decode cX8_mildest 5 = .ok (.getfield 10, 3) := by decide +kernel
theorem dX8_mildest_8 : decode cX8_mildest 8 = .ok (.invokevirtual 279, 3) := by decide +kernel
theorem dX8_mildest_11 : decode cX8_mildest 11 = .ok (.aload_n 0, 1) := by decide +kernel
theorem dX8_mildest_12 : decode cX8_mildest 12 = .ok (.getfield 10, 3) := by decide +kernel
theorem dX8_mildest_15 : decode cX8_mildest 15 = .ok (.getfield 106, 3) := by decide +kernel
theorem dX8_mildest_18 : decode cX8_mildest 18 = .ok (.invokevirtual 237, 3) := by decide +kernel
theorem dX8_mildest_21 : decode cX8_mildest 21 = .ok (.istore_n 1, 1) := by decide +kernel
theorem dX8_mildest_22 : decode cX8_mildest 22 = .ok (.iconst (-1), 1) := by decide +kernel
theorem dX8_mildest_23 : decode cX8_mildest 23 = .ok (.istore_n 2, 1) := by decide +kernel
theorem dX8_mildest_24 : decode cX8_mildest 24 = .ok (.iconst 0, 1) := by decide +kernel
theorem dX8_mildest_25 : decode cX8_mildest 25 = .ok (.istore_n 3, 1) := by decide +kernel
theorem dX8_mildest_26 : decode cX8_mildest 26 = .ok (.iconst 0, 1) := by decide +kernel
theorem dX8_mildest_27 : decode cX8_mildest 27 = .ok (.istore 4, 2) := by decide +kernel
theorem dX8_mildest_29 : decode cX8_mildest 29 = .ok (.iconst 0, 1) := by decide +kernel
theorem dX8_mildest_30 : decode cX8_mildest 30 = .ok (.istore 5, 2) := by decide +kernel
theorem dX8_mildest_32 : decode cX8_mildest 32 = .ok (.iload 5, 2) := by decide +kernel
theorem dX8_mildest_34 : decode cX8_mildest 34 = .ok (.iload_n 1, 1) := by decide +kernel
theorem dX8_mildest_35 : decode cX8_mildest 35 = .ok (.if_icmp .ge 85, 3) := by decide +kernel
theorem dX8_mildest_38 : decode cX8_mildest 38 = .ok (.aload_n 0, 1) := by decide +kernel
theorem dX8_mildest_39 : decode cX8_mildest 39 = .ok (.getfield 26, 3) := by decide +kernel
theorem dX8_mildest_42 : decode cX8_mildest 42 = .ok (.aload_n 0, 1) := by decide +kernel
theorem dX8_mildest_43 : decode cX8_mildest 43 = .ok (.getfield 10, 3) := by decide +kernel
theorem dX8_mildest_46 : decode cX8_mildest 46 = .ok (.getfield 106, 3) := by decide +kernel
theorem dX8_mildest_49 : decode cX8_mildest 49 = .ok (.iload 5, 2) := by decide +kernel
theorem dX8_mildest_51 : decode cX8_mildest 51 = .ok (.invokevirtual 282, 3) := by decide +kernel
theorem dX8_mildest_54 : decode cX8_mildest 54 = .ok (.istore 6, 2) := by decide +kernel
theorem dX8_mildest_56 : decode cX8_mildest 56 = .ok (.iload 6, 2) := by decide +kernel
theorem dX8_mildest_58 : decode cX8_mildest 58 = .ok (.ifCond .ne 6, 3) := by decide +kernel
theorem dX8_mildest_61 : decode cX8_mildest 61 = .ok (.goto 53, 3) := by decide +kernel
theorem dX8_mildest_64 : decode cX8_mildest 64 = .ok (.aload_n 0, 1) := by decide +kernel
theorem dX8_mildest_65 : decode cX8_mildest 65 = .ok (.getfield 26, 3) := by decide +kernel
theorem dX8_mildest_68 : decode cX8_mildest 68 = .ok (.aload_n 0, 1) := by decide +kernel
theorem dX8_mildest_69 : decode cX8_mildest 69 = .ok (.getfield 10, 3) := by decide +kernel
theorem dX8_mildest_72 : decode cX8_mildest 72 = .ok (.invokevirtual 275, 3) := by decide +kernel
theorem dX8_mildest_75 : decode cX8_mildest 75 = .ok (.invokestatic 128, 3) := by decide +kernel
theorem dX8_mildest_78 : decode cX8_mildest 78 = .ok (.istore 7, 2) := by decide +kernel
theorem dX8_mildest_80 : decode cX8_mildest 80 = .ok (.iload_n 2, 1) := by decide +kernel
theorem dX8_mildest_81 : decode cX8_mildest 81 = .ok (.iconst (-1), 1) := by decide +kernel
theorem dX8_mildest_82 : decode cX8_mildest 82 = .ok (.if_icmp .eq 22, 3) := by decide +kernel
theorem dX8_mildest_85 : decode cX8_mildest 85 = .ok (.iload 7, 2) := by decide +kernel
theorem dX8_mildest_87 : decode cX8_mildest 87 = .ok (.iload_n 3, 1) := by decide +kernel
theorem dX8_mildest_88 : decode cX8_mildest 88 = .ok (.if_icmp .lt 16, 3) := by decide +kernel
theorem dX8_mildest_91 : decode cX8_mildest 91 = .ok (.iload 7, 2) := by decide +kernel
theorem dX8_mildest_93 : decode cX8_mildest 93 = .ok (.iload_n 3, 1) := by decide +kernel
theorem dX8_mildest_94 : decode cX8_mildest 94 = .ok (.if_icmp .ne 20, 3) := by decide +kernel
theorem dX8_mildest_97 : decode cX8_mildest 97 = .ok (.iload 6, 2) := by decide +kernel
theorem dX8_mildest_99 : decode cX8_mildest 99 = .ok (.iload 4, 2) := by decide +kernel
theorem dX8_mildest_101 : decode cX8_mildest 101 = .ok (.if_icmp .le 13, 3) := by decide +kernel
theorem dX8_mildest_104 : decode cX8_mildest 104 = .ok (.iload 5, 2) := by decide +kernel
theorem dX8_mildest_106 : decode cX8_mildest 106 = .ok (.istore_n 2, 1) := by decide +kernel
theorem dX8_mildest_107 : decode cX8_mildest 107 = .ok (.iload 7, 2) := by decide +kernel
theorem dX8_mildest_109 : decode cX8_mildest 109 = .ok (.istore_n 3, 1) := by decide +kernel
theorem dX8_mildest_110 : decode cX8_mildest 110 = .ok (.iload 6, 2) := by decide +kernel
theorem dX8_mildest_112 : decode cX8_mildest 112 = .ok (.istore 4, 2) := by decide +kernel
theorem dX8_mildest_114 : decode cX8_mildest 114 = .ok (.iinc 5 1, 3) := by decide +kernel
theorem dX8_mildest_117 : decode cX8_mildest 117 = .ok (.goto (-85), 3) := by decide +kernel
theorem dX8_mildest_120 : decode cX8_mildest 120 = .ok (.iload_n 2, 1) := by decide +kernel
theorem dX8_mildest_121 : decode cX8_mildest 121 = .ok (.ireturn, 1) := by decide +kernel
set_option maxRecDepth 20000 in
theorem ggX8_drowns_X8_needCell : GoodIn wsX8_drowns wsX8_needCell := goodIn_ca (goodIn_r _ [6, 7, 8, 1, 9, 10, 11, 12, 13, 14, 15, 22, 23, 24, 25, 26, 27, 28, 29, 30, 31, 32, 33, 34, 35, 36, 37, 38, 39, 40, 41, 42] (by decide +kernel) (by decide +kernel)) (goodIn_sub (fun _ h => List.mem_cons_of_mem _ (List.mem_append_right _ h)) (by decide +kernel))
set_option maxRecDepth 20000 in
theorem gX8_drowns_X8_needCell : GoodIn wsX8_drowns (wsV RX8 161 RX8 yX8_needCell wsX8_needCell) := goodIn_app (goodIn_of _ (by decide +kernel)) ggX8_drowns_X8_needCell
set_option maxRecDepth 20000 in
theorem ggX8_drowns_X6_namesIn : GoodIn wsX8_drowns wsX6_namesIn := goodIn_r _ [20, 21, 32, 33, 34, 35, 36] (by decide +kernel) (by decide +kernel)
set_option maxRecDepth 20000 in
theorem gX8_drowns_X6_namesIn : GoodIn wsX8_drowns (wsV RX8 180 RX6 yX6_namesIn wsX6_namesIn) := goodIn_app (goodIn_of _ (by decide +kernel)) ggX8_drowns_X6_namesIn
theorem dX8_drowns_0 : decode cX8_drowns 0 = .ok (.aload_n 0, 1) := by decide +kernel
theorem dX8_drowns_1 : decode cX8_drowns 1 = .ok (.iload_n 1, 1) := by decide +kernel
theorem dX8_drowns_2 : decode cX8_drowns 2 = .ok (.invokevirtual 161, 3) := by decide +kernel
theorem dX8_drowns_5 : decode cX8_drowns 5 = .ok (.aload_n 0, 1) := by decide +kernel
theorem dX8_drowns_6 : decode cX8_drowns 6 = .ok (.getfield 10, 3) := by decide +kernel
theorem dX8_drowns_9 : decode cX8_drowns 9 = .ok (.iload_n 1, 1) := by decide +kernel
theorem dX8_drowns_10 : decode cX8_drowns 10 = .ok (.invokevirtual 180, 3) := by decide +kernel
theorem dX8_drowns_13 : decode cX8_drowns 13 = .ok (.ireturn, 1) := by decide +kernel
set_option maxRecDepth 20000 in
theorem ggX8_place_X8_needHarbour : GoodIn wsX8_place wsX8_needHarbour := goodIn_ca (goodIn_r _ [7, 8, 9, 1, 163, 164, 165, 166, 167, 168, 169, 170, 171, 172, 173, 174, 175, 176, 177, 178, 179, 180, 181, 182, 183] (by decide +kernel) (by decide +kernel)) (goodIn_sub (fun _ h => List.mem_cons_of_mem _ (List.mem_append_left _ (List.mem_append_right _ h))) (by decide +kernel))
set_option maxRecDepth 20000 in
theorem gX8_place_X8_needHarbour : GoodIn wsX8_place (wsV RX8 188 RX8 yX8_needHarbour wsX8_needHarbour) := goodIn_app (goodIn_of _ (by decide +kernel)) ggX8_place_X8_needHarbour
set_option maxRecDepth 20000 in
theorem ggX8_place_X8_needDirection : GoodIn wsX8_place wsX8_needDirection := goodIn_ca (goodIn_r _ [12, 13, 14] (by decide +kernel) (by decide +kernel)) (goodIn_sub (fun _ h => List.mem_cons_of_mem _ (List.mem_append_right _ h)) (by decide +kernel))
set_option maxRecDepth 20000 in
theorem gX8_place_X8_needDirection : GoodIn wsX8_place (va_wsS RX8 221 yX8_needDirection wsX8_needDirection) := goodIn_app (goodIn_of _ (by decide +kernel)) ggX8_place_X8_needDirection
set_option maxRecDepth 20000 in
theorem ggX8_place_X6_reasonAgainst : GoodIn wsX8_place wsX6_reasonAgainst := goodIn_r _ [19, 20, 21, 22, 18, 23, 24, 25, 26, 27, 28, 29, 30, 31, 32, 33, 34, 35, 36, 37, 38, 39, 40, 41, 42, 43, 44, 45, 46, 47, 48, 49, 50, 51, 52, 53, 54, 55, 56, 57, 58, 59, 60, 61, 62, 63, 64, 65, 66, 67, 68, 69, 70, 71, 72, 73, 74, 75, 76, 77, 78, 79, 80, 81, 82, 173, 174, 175, 176, 177, 178, 179, 180, 181, 182, 183, 184, 185, 186, 187, 188, 189] (by decide +kernel) (by decide +kernel)
set_option maxRecDepth 20000 in
theorem gX8_place_X6_reasonAgainst : GoodIn wsX8_place (wsV RX8 224 RX6 yX6_reasonAgainst wsX6_reasonAgainst) := goodIn_app (goodIn_of _ (by decide +kernel)) ggX8_place_X6_reasonAgainst
set_option maxRecDepth 20000 in
theorem ggX8_place_X3_keep : GoodIn wsX8_place wsX3_keep := goodIn_r _ [87, 88, 89, 90, 91, 18, 92, 93, 94, 95, 96, 97, 98, 99, 100, 101, 102, 103, 36, 25, 104, 105, 29, 24, 106, 107, 108, 109, 110, 71, 76, 111, 112, 113, 114, 44, 58, 115, 116, 117, 118, 32, 119, 49, 81, 120, 121, 122, 123, 124, 125, 126, 127, 128, 129, 130, 131, 38, 39, 132, 133, 134, 135, 136, 31, 137, 138, 139, 140, 141, 142, 143, 144, 145, 190, 191, 192, 173, 174, 175, 176, 177, 184, 185, 186, 187, 188, 189, 178, 179, 180, 181, 182, 183, 193, 194, 195, 196, 197] (by decide +kernel) (by decide +kernel)
set_option maxRecDepth 20000 in
theorem gX8_place_X3_keep : GoodIn wsX8_place (wsV RX8 286 RX3 yX3_keep wsX3_keep) := goodIn_app (goodIn_of _ (by decide +kernel)) ggX8_place_X3_keep
set_option maxRecDepth 20000 in
theorem ggX8_place_X2_directionOf : GoodIn wsX8_place wsX2_directionOf := goodIn_r _ [149, 31, 119, 178, 179, 180, 181, 182, 183] (by decide +kernel) (by decide +kernel)
set_option maxRecDepth 20000 in
theorem gX8_place_X2_directionOf : GoodIn wsX8_place (wsV RX8 197 RX2 yX2_directionOf wsX2_directionOf) := goodIn_app (goodIn_of _ (by decide +kernel)) ggX8_place_X2_directionOf
set_option maxRecDepth 20000 in
theorem ggX8_place_X6_putName : GoodIn wsX8_place wsX6_putName := goodIn_r _ [153, 24, 25, 71, 76, 154, 155, 156, 18, 157, 26, 27, 28, 29, 30, 31, 32, 158, 147, 148, 149, 119, 45, 46, 47, 48, 49, 33, 34, 35, 36, 37, 38, 39, 159, 160, 161, 162, 77, 78, 79, 80, 81, 82, 173, 174, 175, 176, 177, 178, 179, 180, 181, 182, 183, 184, 185, 186, 187, 188, 189] (by decide +kernel) (by decide +kernel)
set_option maxRecDepth 20000 in
theorem gX8_place_X6_putName : GoodIn wsX8_place (wsV RX8 289 RX6 yX6_putName wsX6_putName) := goodIn_app (goodIn_of _ (by decide +kernel)) ggX8_place_X6_putName
theorem dX8_place_0 : decode cX8_place 0 = .ok (.aload_n 0, 1) := by decide +kernel
theorem dX8_place_1 : decode cX8_place 1 = .ok (.iload_n 1, 1) := by decide +kernel
theorem dX8_place_2 : decode cX8_place 2 = .ok (.invokevirtual 188, 3) := by decide +kernel
theorem dX8_place_5 : decode cX8_place 5 = .ok (.iload_n 2, 1) := by decide +kernel
theorem dX8_place_6 : decode cX8_place 6 = .ok (.invokestatic 221, 3) := by decide +kernel
theorem dX8_place_9 : decode cX8_place 9 = .ok (.aload_n 0, 1) := by decide +kernel
theorem dX8_place_10 : decode cX8_place 10 = .ok (.getfield 10, 3) := by decide +kernel
theorem dX8_place_13 : decode cX8_place 13 = .ok (.iload_n 1, 1) := by decide +kernel
theorem dX8_place_14 : decode cX8_place 14 = .ok (.iload_n 2, 1) := by decide +kernel
theorem dX8_place_15 : decode cX8_place 15 = .ok (.invokevirtual 224, 3) := by decide +kernel
theorem dX8_place_18 : decode cX8_place 18 = .ok (.ifCond .eq 6, 3) := by decide +kernel
theorem dX8_place_21 : decode cX8_place 21 = .ok (.bipush (-3), 2) := by decide +kernel
theorem dX8_place_23 : decode cX8_place 23 = .ok (.ireturn, 1) := by decide +kernel
theorem dX8_place_24 : decode cX8_place 24 = .ok (.aload_n 0, 1) := by decide +kernel
theorem dX8_place_25 : decode cX8_place 25 = .ok (.getfield 19, 3) := by decide +kernel
theorem dX8_place_28 : decode cX8_place 28 = .ok (.aload_n 0, 1) := by decide +kernel
theorem dX8_place_29 : decode cX8_place 29 = .ok (.getfield 10, 3) := by decide +kernel
theorem dX8_place_32 : decode cX8_place 32 = .ok (.invokevirtual 286, 3) := by decide +kernel
theorem dX8_place_35 : decode cX8_place 35 = .ok (.aload_n 0, 1) := by decide +kernel
theorem dX8_place_36 : decode cX8_place 36 = .ok (.getfield 10, 3) := by decide +kernel
theorem dX8_place_39 : decode cX8_place 39 = .ok (.getfield 97, 3) := by decide +kernel
theorem dX8_place_42 : decode cX8_place 42 = .ok (.iload_n 1, 1) := by decide +kernel
theorem dX8_place_43 : decode cX8_place 43 = .ok (.invokevirtual 197, 3) := by decide +kernel
theorem dX8_place_46 : decode cX8_place 46 = .ok (.istore_n 3, 1) := by decide +kernel
theorem dX8_place_47 : decode cX8_place 47 = .ok (.aload_n 0, 1) := by decide +kernel
theorem dX8_place_48 : decode cX8_place 48 = .ok (.getfield 10, 3) := by decide +kernel
theorem dX8_place_51 : decode cX8_place 51 = .ok (.iload_n 1, 1) := by decide +kernel
theorem dX8_place_52 : decode cX8_place 52 = .ok (.iload_n 2, 1) := by decide +kernel
theorem dX8_place_53 : decode cX8_place 53 = .ok (.invokevirtual 289, 3) := by decide +kernel
theorem dX8_place_56 : decode cX8_place 56 = .ok (.iload_n 3, 1) := by decide +kernel
theorem dX8_place_57 : decode cX8_place 57 = .ok (.ireturn, 1) := by decide +kernel
set_option maxRecDepth 20000 in
theorem ggX8_lift_X8_needHarbour : GoodIn wsX8_lift wsX8_needHarbour := goodIn_ca (goodIn_r _ [7, 8, 9, 1, 113, 114, 115, 116, 117, 118, 119, 120, 121, 122, 123, 124, 125, 126, 127, 128, 129, 130, 131, 132, 133] (by decide +kernel) (by decide +kernel)) (goodIn_sub (fun _ h => List.mem_cons_of_mem _ (List.mem_append_right _ h)) (by decide +kernel))
set_option maxRecDepth 20000 in
theorem gX8_lift_X8_needHarbour : GoodIn wsX8_lift (wsV RX8 188 RX8 yX8_needHarbour wsX8_needHarbour) := goodIn_app (goodIn_of _ (by decide +kernel)) ggX8_lift_X8_needHarbour
set_option maxRecDepth 20000 in
theorem ggX8_lift_X2_directionOf : GoodIn wsX8_lift wsX2_directionOf := goodIn_r _ [14, 15, 16, 128, 129, 130, 131, 132, 133] (by decide +kernel) (by decide +kernel)
set_option maxRecDepth 20000 in
theorem gX8_lift_X2_directionOf : GoodIn wsX8_lift (wsV RX8 197 RX2 yX2_directionOf wsX2_directionOf) := goodIn_app (goodIn_of _ (by decide +kernel)) ggX8_lift_X2_directionOf
set_option maxRecDepth 20000 in
theorem ggX8_lift_X3_keep : GoodIn wsX8_lift wsX3_keep := goodIn_r _ [21, 22, 23, 24, 25, 26, 27, 28, 29, 30, 31, 32, 33, 34, 35, 36, 37, 38, 39, 40, 41, 42, 13, 43, 44, 45, 46, 47, 48, 49, 50, 51, 52, 53, 54, 55, 56, 57, 58, 59, 60, 61, 16, 62, 63, 64, 65, 66, 67, 68, 69, 70, 71, 72, 73, 74, 75, 76, 77, 78, 79, 80, 81, 82, 15, 83, 84, 85, 86, 87, 88, 89, 90, 91, 134, 135, 136, 123, 124, 125, 126, 127, 137, 138, 139, 140, 141, 142, 128, 129, 130, 131, 132, 133, 143, 144, 145, 146, 147] (by decide +kernel) (by decide +kernel)
set_option maxRecDepth 20000 in
theorem gX8_lift_X3_keep : GoodIn wsX8_lift (wsV RX8 286 RX3 yX3_keep wsX3_keep) := goodIn_app (goodIn_of _ (by decide +kernel)) ggX8_lift_X3_keep
set_option maxRecDepth 20000 in
theorem ggX8_lift_X6_takeName : GoodIn wsX8_lift wsX6_takeName := goodIn_r _ [95, 43, 40, 49, 96, 97, 98, 13, 99, 15, 61, 100, 11, 12, 14, 16, 101, 102, 103, 104, 62, 105, 106, 107, 39, 108, 76, 77, 109, 110, 111, 112, 123, 124, 125, 126, 127, 128, 129, 130, 131, 132, 133, 137, 138, 139, 140, 141, 142] (by decide +kernel) (by decide +kernel)
set_option maxRecDepth 20000 in
theorem gX8_lift_X6_takeName : GoodIn wsX8_lift (wsV RX8 292 RX6 yX6_takeName wsX6_takeName) := goodIn_app (goodIn_of _ (by decide +kernel)) ggX8_lift_X6_takeName
theorem dX8_lift_0 : decode cX8_lift 0 = .ok (.aload_n 0, 1) := by decide +kernel
theorem dX8_lift_1 : decode cX8_lift 1 = .ok (.iload_n 1, 1) := by decide +kernel
theorem dX8_lift_2 : decode cX8_lift 2 = .ok (.invokevirtual 188, 3) := by decide +kernel
theorem dX8_lift_5 : decode cX8_lift 5 = .ok (.aload_n 0, 1) := by decide +kernel
theorem dX8_lift_6 : decode cX8_lift 6 = .ok (.getfield 10, 3) := by decide +kernel
theorem dX8_lift_9 : decode cX8_lift 9 = .ok (.getfield 97, 3) := by decide +kernel
theorem dX8_lift_12 : decode cX8_lift 12 = .ok (.iload_n 1, 1) := by decide +kernel
theorem dX8_lift_13 : decode cX8_lift 13 = .ok (.invokevirtual 197, 3) := by decide +kernel
theorem dX8_lift_16 : decode cX8_lift 16 = .ok (.istore_n 2, 1) := by decide +kernel
theorem dX8_lift_17 : decode cX8_lift 17 = .ok (.iload_n 2, 1) := by decide +kernel
theorem dX8_lift_18 : decode cX8_lift 18 = .ok (.iconst (-1), 1) := by decide +kernel
theorem dX8_lift_19 : decode cX8_lift 19 = .ok (.if_icmp .ne 6, 3) := by decide +kernel
theorem dX8_lift_22 : decode cX8_lift 22 = .ok (.bipush (-3), 2) := by decide +kernel
theorem dX8_lift_24 : decode cX8_lift 24 = .ok (.ireturn, 1) := by decide +kernel
theorem dX8_lift_25 : decode cX8_lift 25 = .ok (.aload_n 0, 1) := by decide +kernel
theorem dX8_lift_26 : decode cX8_lift 26 = .ok (.getfield 19, 3) := by decide +kernel
theorem dX8_lift_29 : decode cX8_lift 29 = .ok (.aload_n 0, 1) := by decide +kernel
theorem dX8_lift_30 : decode cX8_lift 30 = .ok (.getfield 10, 3) := by decide +kernel
theorem dX8_lift_33 : decode cX8_lift 33 = .ok (.invokevirtual 286, 3) := by decide +kernel
theorem dX8_lift_36 : decode cX8_lift 36 = .ok (.aload_n 0, 1) := by decide +kernel
theorem dX8_lift_37 : decode cX8_lift 37 = .ok (.getfield 10, 3) := by decide +kernel
theorem dX8_lift_40 : decode cX8_lift 40 = .ok (.iload_n 1, 1) := by decide +kernel
theorem dX8_lift_41 : decode cX8_lift 41 = .ok (.invokevirtual 292, 3) := by decide +kernel
theorem dX8_lift_44 : decode cX8_lift 44 = .ok (.iload_n 2, 1) := by decide +kernel
theorem dX8_lift_45 : decode cX8_lift 45 = .ok (.ireturn, 1) := by decide +kernel
set_option maxRecDepth 20000 in
theorem ggX8_arrange_X0_findBest : GoodIn wsX8_arrange wsX0_findBest := goodIn_r _ [8, 9, 10, 11, 12, 13, 14, 15, 16, 17, 18, 19, 7, 20, 21, 22, 23, 24, 25, 26, 27, 28, 29, 30, 31, 32, 33, 34, 35, 36, 37, 38, 39, 40, 41, 42, 43, 44, 45, 46, 47, 48, 49, 50, 51, 52, 53, 54, 55, 56, 57, 58, 59, 60, 61, 62, 63, 64, 65, 66, 67, 68, 69, 70, 71, 72, 73, 74, 75, 76, 77, 78, 79, 80, 81, 82, 83, 84, 85, 86, 87, 88, 89, 90, 91, 92, 93, 94, 95, 96, 97, 98, 99, 100, 101, 102, 103, 104, 105, 106, 107, 108, 109, 110, 111, 112, 113, 114, 115, 116, 117, 118, 119, 120, 121, 122, 123, 124, 125, 126, 237, 238, 239, 240, 241, 242, 243, 244, 245, 246, 226, 227, 228, 229, 230, 231, 232, 233, 234, 235, 236, 247, 248, 249, 250, 251, 252, 253, 254, 255, 256, 257] (by decide +kernel) (by decide +kernel)
set_option maxRecDepth 20000 in
theorem gX8_arrange_X0_findBest : GoodIn wsX8_arrange (wsV RX8 252 RX0 yX0_findBest wsX0_findBest) := goodIn_app (goodIn_of _ (by decide +kernel)) ggX8_arrange_X0_findBest
set_option maxRecDepth 20000 in
theorem ggX8_arrange_X3_keep : GoodIn wsX8_arrange wsX3_keep := goodIn_r _ [131, 132, 133, 134, 135, 24, 136, 137, 125, 122, 126, 138, 139, 140, 141, 142, 143, 144, 38, 27, 145, 146, 31, 26, 147, 148, 107, 149, 150, 151, 152, 153, 154, 155, 156, 46, 60, 157, 158, 159, 160, 34, 161, 51, 94, 162, 163, 164, 114, 165, 166, 167, 168, 169, 170, 171, 172, 40, 41, 173, 174, 175, 176, 177, 33, 178, 179, 180, 181, 182, 109, 183, 184, 185, 258, 259, 260, 226, 227, 228, 229, 230, 247, 248, 249, 250, 251, 252, 231, 232, 233, 234, 235, 236, 253, 254, 255, 256, 257] (by decide +kernel) (by decide +kernel)
set_option maxRecDepth 20000 in
theorem gX8_arrange_X3_keep : GoodIn wsX8_arrange (wsV RX8 286 RX3 yX3_keep wsX3_keep) := goodIn_app (goodIn_of _ (by decide +kernel)) ggX8_arrange_X3_keep
set_option maxRecDepth 20000 in
theorem ggX8_arrange_X2_placedNames : GoodIn wsX8_arrange wsX2_placedNames := goodIn_r _ [189, 33, 190, 191, 192, 31, 193, 161, 231, 232, 233, 234, 235, 236] (by decide +kernel) (by decide +kernel)
set_option maxRecDepth 20000 in
theorem gX8_arrange_X2_placedNames : GoodIn wsX8_arrange (wsV RX8 125 RX2 yX2_placedNames wsX2_placedNames) := goodIn_app (goodIn_of _ (by decide +kernel)) ggX8_arrange_X2_placedNames
set_option maxRecDepth 20000 in
theorem ggX8_arrange_X6_takeNames : GoodIn wsX8_arrange wsX6_takeNames := goodIn_r _ [197, 26, 198, 199, 200, 24, 201, 27, 151, 28, 29, 30, 31, 32, 33, 34, 202, 191, 192, 193, 161, 47, 48, 49, 50, 51, 35, 36, 37, 38, 39, 40, 41, 203, 204, 205, 206, 226, 227, 228, 229, 230, 231, 232, 233, 234, 235, 236, 247, 248, 249, 250, 251, 252] (by decide +kernel) (by decide +kernel)
set_option maxRecDepth 20000 in
theorem gX8_arrange_X6_takeNames : GoodIn wsX8_arrange (wsV RX8 295 RX6 yX6_takeNames wsX6_takeNames) := goodIn_app (goodIn_of _ (by decide +kernel)) ggX8_arrange_X6_takeNames
set_option maxRecDepth 20000 in
theorem ggX8_arrange_X0_bestDirection : GoodIn wsX8_arrange wsX0_bestDirection := goodIn_r _ [210, 14, 237, 238, 239, 240, 241, 242, 243, 244, 245, 246] (by decide +kernel) (by decide +kernel)
set_option maxRecDepth 20000 in
theorem gX8_arrange_X0_bestDirection : GoodIn wsX8_arrange (wsV RX8 262 RX0 yX0_bestDirection wsX0_bestDirection) := goodIn_app (goodIn_of _ (by decide +kernel)) ggX8_arrange_X0_bestDirection
set_option maxRecDepth 20000 in
theorem ggX8_arrange_X6_putName : GoodIn wsX8_arrange wsX6_putName := goodIn_r _ [214, 26, 27, 151, 152, 198, 199, 200, 24, 201, 28, 29, 30, 31, 32, 33, 34, 202, 191, 192, 193, 161, 47, 48, 49, 50, 51, 35, 36, 37, 38, 39, 40, 41, 203, 204, 205, 206, 215, 91, 92, 93, 94, 95, 226, 227, 228, 229, 230, 231, 232, 233, 234, 235, 236, 247, 248, 249, 250, 251, 252] (by decide +kernel) (by decide +kernel)
set_option maxRecDepth 20000 in
theorem gX8_arrange_X6_putName : GoodIn wsX8_arrange (wsV RX8 289 RX6 yX6_putName wsX6_putName) := goodIn_app (goodIn_of _ (by decide +kernel)) ggX8_arrange_X6_putName
theorem dX8_arrange_0 : decode cX8_arrange 0 = .ok (.aload_n 0, 1) := by decide +kernel
theorem dX8_arrange_1 : decode cX8_arrange 1 = .ok (.getfield 33, 3) := by decide +kernel
theorem dX8_arrange_4 : decode cX8_arrange 4 = .ok (.aload_n 0, 1) := by decide +kernel
theorem dX8_arrange_5 : decode cX8_arrange 5 = .ok (.getfield 10, 3) := by decide +kernel
theorem dX8_arrange_8 : decode cX8_arrange 8 = .ok (.iconst (-1), 1) := by decide +kernel
theorem dX8_arrange_9 : decode cX8_arrange 9 = .ok (.aload_n 0, 1) := by decide +kernel
theorem dX8_arrange_10 : decode cX8_arrange 10 = .ok (.getfield 10, 3) := by decide +kernel
theorem dX8_arrange_13 : decode cX8_arrange 13 = .ok (.getfield 97, 3) := by decide +kernel
theorem dX8_arrange_16 : decode cX8_arrange 16 = .ok (.getfield 134, 3) := by decide +kernel
theorem dX8_arrange_19 : decode cX8_arrange 19 = .ok (.invokevirtual 252, 3) := by decide +kernel
theorem dX8_arrange_22 : decode cX8_arrange 22 = .ok (.aload_n 0, 1) := by decide +kernel
theorem dX8_arrange_23 : decode cX8_arrange 23 = .ok (.getfield 19, 3) := by decide +kernel
theorem dX8_arrange_26 : decode cX8_arrange 26 = .ok (.aload_n 0, 1) := by decide +kernel
theorem dX8_arrange_27 : decode cX8_arrange 27 = .ok (.getfield 10, 3) := by decide +kernel
theorem dX8_arrange_30 : decode cX8_arrange 30 = .ok (.invokevirtual 286, 3) := by decide +kernel
theorem dX8_arrange_33 : decode cX8_arrange 33 = .ok (.aload_n 0, 1) := by decide +kernel
theorem dX8_arrange_34 : decode cX8_arrange 34 = .ok (.getfield 10, 3) := by decide +kernel
theorem dX8_arrange_37 : decode cX8_arrange 37 = .ok (.aload_n 0, 1) := by decide +kernel
theorem dX8_arrange_38 : decode cX8_arrange 38 = .ok (.getfield 10, 3) := by decide +kernel
theorem dX8_arrange_41 : decode cX8_arrange 41 = .ok (.getfield 97, 3) := by decide +kernel
theorem dX8_arrange_44 : decode cX8_arrange 44 = .ok (.invokevirtual 125, 3) := by decide +kernel
theorem dX8_arrange_47 : decode cX8_arrange 47 = .ok (.invokevirtual 295, 3) := by decide +kernel
theorem dX8_arrange_50 : decode cX8_arrange 50 = .ok (.iconst 0, 1) := by decide +kernel
theorem dX8_arrange_51 : decode cX8_arrange 51 = .ok (.istore_n 1, 1) := by decide +kernel
theorem dX8_arrange_52 : decode cX8_arrange 52 = .ok (.iload_n 1, 1) := by decide +kernel
theorem dX8_arrange_53 : decode cX8_arrange 53 = .ok (.aload_n 0, 1) := by decide +kernel
theorem dX8_arrange_54 : decode cX8_arrange 54 = .ok (.getfield 10, 3) := by decide +kernel
theorem dX8_arrange_57 : decode cX8_arrange 57 = .ok (.getfield 97, 3) := by decide +kernel
theorem dX8_arrange_60 : decode cX8_arrange 60 = .ok (.getfield 101, 3) := by decide +kernel
theorem dX8_arrange_63 : decode cX8_arrange 63 = .ok (.if_icmp .ge 32, 3) := by decide +kernel
theorem dX8_arrange_66 : decode cX8_arrange 66 = .ok (.aload_n 0, 1) := by decide +kernel
theorem dX8_arrange_67 : decode cX8_arrange 67 = .ok (.getfield 33, 3) := by decide +kernel
theorem dX8_arrange_70 : decode cX8_arrange 70 = .ok (.iload_n 1, 1) := by decide +kernel
theorem dX8_arrange_71 : decode cX8_arrange 71 = .ok (.invokevirtual 262, 3) := by decide +kernel
theorem dX8_arrange_74 : decode cX8_arrange 74 = .ok (.istore_n 2, 1) := by decide +kernel
theorem dX8_arrange_75 : decode cX8_arrange 75 = .ok (.iload_n 2, 1) := by decide +kernel
theorem dX8_arrange_76 : decode cX8_arrange 76 = .ok (.iconst (-1), 1) := by decide +kernel
theorem dX8_arrange_77 : decode cX8_arrange 77 = .ok (.if_icmp .eq 12, 3) := by decide +kernel
theorem dX8_arrange_80 : decode cX8_arrange 80 = .ok (.aload_n 0, 1) := by decide +kernel
theorem dX8_arrange_81 : decode cX8_arrange 81 = .ok (.getfield 10, 3) := by decide +kernel
theorem dX8_arrange_84 : decode cX8_arrange 84 = .ok (.iload_n 1, 1) := by decide +kernel
theorem dX8_arrange_85 : decode cX8_arrange 85 = .ok (.iload_n 2, 1) := by decide +kernel
theorem dX8_arrange_86 : decode cX8_arrange 86 = .ok (.invokevirtual 289, 3) := by decide +kernel
theorem dX8_arrange_89 : decode cX8_arrange 89 = .ok (.iinc 1 1, 3) := by decide +kernel
theorem dX8_arrange_92 : decode cX8_arrange 92 = .ok (.goto (-40), 3) := by decide +kernel
theorem dX8_arrange_95 : decode cX8_arrange 95 = .ok (.aload_n 0, 1) := by decide +kernel
theorem dX8_arrange_96 : decode cX8_arrange 96 = .ok (.getfield 33, 3) := by decide +kernel
theorem dX8_arrange_99 : decode cX8_arrange 99 = .ok (.getfield 259, 3) := by decide +kernel
theorem dX8_arrange_102 : decode cX8_arrange 102 = .ok (.ireturn, 1) := by decide +kernel
set_option maxRecDepth 20000 in
theorem ggX8_setRed_X8_needHarbour : GoodIn wsX8_setRed wsX8_needHarbour := goodIn_ca (goodIn_r _ [7, 8, 9, 2, 132, 133, 134, 135, 136, 137, 138, 139, 140, 141, 142, 143, 144, 145, 146, 147, 148, 149, 150, 151, 152] (by decide +kernel) (by decide +kernel)) (goodIn_sub (fun _ h => List.mem_cons_of_mem _ (List.mem_append_right _ h)) (by decide +kernel))
set_option maxRecDepth 20000 in
theorem gX8_setRed_X8_needHarbour : GoodIn wsX8_setRed (wsV RX8 188 RX8 yX8_needHarbour wsX8_needHarbour) := goodIn_app (goodIn_of _ (by decide +kernel)) ggX8_setRed_X8_needHarbour
set_option maxRecDepth 20000 in
theorem ggX8_setRed_X3_keep : GoodIn wsX8_setRed wsX3_keep := goodIn_r _ [14, 15, 16, 17, 18, 19, 20, 21, 22, 23, 24, 25, 26, 27, 28, 29, 30, 31, 32, 33, 34, 35, 36, 37, 38, 39, 40, 41, 42, 43, 44, 45, 46, 47, 48, 49, 50, 51, 52, 53, 54, 55, 56, 57, 58, 59, 60, 61, 62, 63, 64, 65, 66, 67, 68, 69, 70, 71, 72, 73, 74, 75, 76, 77, 78, 79, 80, 81, 82, 83, 84, 85, 86, 87, 153, 154, 155, 142, 143, 144, 145, 146, 156, 157, 158, 159, 160, 161, 147, 148, 149, 150, 151, 152, 162, 163, 164, 165, 166] (by decide +kernel) (by decide +kernel)
set_option maxRecDepth 20000 in
theorem gX8_setRed_X3_keep : GoodIn wsX8_setRed (wsV RX8 286 RX3 yX3_keep wsX3_keep) := goodIn_app (goodIn_of _ (by decide +kernel)) ggX8_setRed_X3_keep
set_option maxRecDepth 20000 in
theorem ggX8_setRed_X2_isRed : GoodIn wsX8_setRed wsX2_isRed := goodIn_r _ [91, 79, 147, 148, 149, 150, 151, 152] (by decide +kernel) (by decide +kernel)
set_option maxRecDepth 20000 in
theorem gX8_setRed_X2_isRed : GoodIn wsX8_setRed (wsV RX8 194 RX2 yX2_isRed wsX2_isRed) := goodIn_app (goodIn_of _ (by decide +kernel)) ggX8_setRed_X2_isRed
set_option maxRecDepth 20000 in
theorem ggX8_setRed_X6_crossedBy : GoodIn wsX8_setRed wsX6_crossedBy := goodIn_r _ [95, 37, 33, 96, 97, 98, 36, 99, 78, 55, 100, 101, 102, 103, 56, 104, 105, 106, 107, 57, 108, 109, 110, 32, 111, 71, 72, 112, 113, 114, 19, 115, 43, 142, 143, 144, 145, 146, 147, 148, 149, 150, 151, 152, 156, 157, 158, 159, 160, 161] (by decide +kernel) (by decide +kernel)
set_option maxRecDepth 20000 in
theorem gX8_setRed_X6_crossedBy : GoodIn wsX8_setRed (wsV RX8 234 RX6 yX6_crossedBy wsX6_crossedBy) := goodIn_app (goodIn_of _ (by decide +kernel)) ggX8_setRed_X6_crossedBy
set_option maxRecDepth 20000 in
theorem ggX8_setRed_X6_takeNames : GoodIn wsX8_setRed wsX6_takeNames := goodIn_r _ [119, 37, 120, 121, 122, 19, 123, 33, 43, 96, 97, 98, 36, 99, 78, 55, 100, 101, 102, 103, 56, 104, 105, 106, 107, 57, 108, 109, 110, 32, 111, 71, 72, 124, 125, 126, 127, 142, 143, 144, 145, 146, 147, 148, 149, 150, 151, 152, 156, 157, 158, 159, 160, 161] (by decide +kernel) (by decide +kernel)
set_option maxRecDepth 20000 in
theorem gX8_setRed_X6_takeNames : GoodIn wsX8_setRed (wsV RX8 295 RX6 yX6_takeNames wsX6_takeNames) := goodIn_app (goodIn_of _ (by decide +kernel)) ggX8_setRed_X6_takeNames
set_option maxRecDepth 20000 in
theorem ggX8_setRed_X2_redsIf : GoodIn wsX8_setRed wsX2_redsIf := goodIn_r _ [131, 79, 147, 148, 149, 150, 151, 152] (by decide +kernel) (by decide +kernel)
set_option maxRecDepth 20000 in
theorem gX8_setRed_X2_redsIf : GoodIn wsX8_setRed (wsV RX8 265 RX2 yX2_redsIf wsX2_redsIf) := goodIn_app (goodIn_of _ (by decide +kernel)) ggX8_setRed_X2_redsIf
theorem dX8_setRed_0 : decode cX8_setRed 0 = .ok (.aload_n 0, 1) := by decide +kernel
theorem dX8_setRed_1 : decode cX8_setRed 1 = .ok (.iload_n 1, 1) := by decide +kernel
theorem dX8_setRed_2 : decode cX8_setRed 2 = .ok (.invokevirtual 188, 3) := by decide +kernel
theorem dX8_setRed_5 : decode cX8_setRed 5 = .ok (.aload_n 0, 1) := by decide +kernel
theorem dX8_setRed_6 : decode cX8_setRed 6 = .ok (.getfield 19, 3) := by decide +kernel
theorem dX8_setRed_9 : decode cX8_setRed 9 = .ok (.aload_n 0, 1) := by decide +kernel
theorem dX8_setRed_10 : decode cX8_setRed 10 = .ok (.getfield 10, 3) := by decide +kernel
theorem dX8_setRed_13 : decode cX8_setRed 13 = .ok (.invokevirtual 286, 3) := by decide +kernel
theorem dX8_setRed_16 : decode cX8_setRed 16 = .ok (.aload_n 0, 1) := by decide +kernel
theorem dX8_setRed_17 : decode cX8_setRed 17 = .ok (.getfield 10, 3) := by decide +kernel
theorem dX8_setRed_20 : decode cX8_setRed 20 = .ok (.getfield 97, 3) := by decide +kernel
theorem dX8_setRed_23 : decode cX8_setRed 23 = .ok (.iload_n 1, 1) := by decide +kernel
theorem dX8_setRed_24 : decode cX8_setRed 24 = .ok (.invokevirtual 194, 3) := by decide +kernel
theorem dX8_setRed_27 : decode cX8_setRed 27 = .ok (.istore_n 3, 1) := by decide +kernel
theorem dX8_setRed_28 : decode cX8_setRed 28 = .ok (.iload_n 2, 1) := by decide +kernel
theorem dX8_setRed_29 : decode cX8_setRed 29 = .ok (.ifCond .eq 18, 3) := by decide +kernel
theorem dX8_setRed_32 : decode cX8_setRed 32 = .ok (.aload_n 0, 1) := by decide +kernel
theorem dX8_setRed_33 : decode cX8_setRed 33 = .ok (.getfield 10, 3) := by decide +kernel
theorem dX8_setRed_36 : decode cX8_setRed 36 = .ok (.aload_n 0, 1) := by decide +kernel
theorem dX8_setRed_37 : decode cX8_setRed 37 = .ok (.getfield 10, 3) := by decide +kernel
theorem dX8_setRed_40 : decode cX8_setRed 40 = .ok (.iload_n 1, 1) := by decide +kernel
theorem dX8_setRed_41 : decode cX8_setRed 41 = .ok (.invokevirtual 234, 3) := by decide +kernel
theorem dX8_setRed_44 : decode cX8_setRed 44 = .ok (.invokevirtual 295, 3) := by decide +kernel
theorem dX8_setRed_47 : decode cX8_setRed 47 = .ok (.aload_n 0, 1) := by decide +kernel
theorem dX8_setRed_48 : decode cX8_setRed 48 = .ok (.getfield 10, 3) := by decide +kernel
theorem dX8_setRed_51 : decode cX8_setRed 51 = .ok (.getfield 97, 3) := by decide +kernel
theorem dX8_setRed_54 : decode cX8_setRed 54 = .ok (.aload_n 0, 1) := by decide +kernel
theorem dX8_setRed_55 : decode cX8_setRed 55 = .ok (.getfield 10, 3) := by decide +kernel
theorem dX8_setRed_58 : decode cX8_setRed 58 = .ok (.getfield 97, 3) := by decide +kernel
theorem dX8_setRed_61 : decode cX8_setRed 61 = .ok (.iload_n 1, 1) := by decide +kernel
theorem dX8_setRed_62 : decode cX8_setRed 62 = .ok (.iload_n 2, 1) := by decide +kernel
theorem dX8_setRed_63 : decode cX8_setRed 63 = .ok (.invokevirtual 265, 3) := by decide +kernel
theorem dX8_setRed_66 : decode cX8_setRed 66 = .ok (.putfield 134, 3) := by decide +kernel
theorem dX8_setRed_69 : decode cX8_setRed 69 = .ok (.iload_n 3, 1) := by decide +kernel
theorem dX8_setRed_70 : decode cX8_setRed 70 = .ok (.ireturn, 1) := by decide +kernel
set_option maxRecDepth 20000 in
theorem ggX8_addRiver_X8_needCell : GoodIn wsX8_addRiver wsX8_needCell := goodIn_ca (goodIn_r _ [8, 9, 10, 1, 11, 12, 13, 14, 15, 16, 17, 192, 193, 194, 195, 196, 197, 198, 199, 200, 201, 202, 203, 204, 205, 206, 207, 208, 209, 210, 211, 212] (by decide +kernel) (by decide +kernel)) (goodIn_sub (fun _ h => List.mem_cons_of_mem _ (List.mem_append_right _ h)) (by decide +kernel))
set_option maxRecDepth 20000 in
theorem gX8_addRiver_X8_needCell : GoodIn wsX8_addRiver (wsV RX8 161 RX8 yX8_needCell wsX8_needCell) := goodIn_app (goodIn_of _ (by decide +kernel)) ggX8_addRiver_X8_needCell
set_option maxRecDepth 20000 in
theorem ggX8_addRiver_X8_wayFrom : GoodIn wsX8_addRiver wsX8_wayFrom := goodIn_r _ [21, 3, 1, 22, 23, 24, 25, 26, 27, 28, 29, 30, 31, 32, 33, 12, 13, 14, 15, 16, 17, 34, 35, 36, 37, 38, 39, 40, 41, 42, 43, 44, 45, 46, 47, 48, 49, 50, 51, 52, 53, 54, 55, 56, 57, 58, 59, 60, 61, 62, 63, 64, 65, 66, 67, 68, 69, 70, 71, 72, 73, 74, 75, 76, 77, 78, 79, 80, 81, 82, 83, 84, 85, 86, 87, 88, 89, 90, 91, 192, 193, 194, 195, 196, 197, 198, 199, 200, 201, 202, 203, 204, 205, 206, 213, 214, 215, 216, 207, 208, 209, 210, 211, 212, 217, 218, 219, 220, 221, 222] (by decide +kernel) (by decide +kernel)
set_option maxRecDepth 20000 in
theorem gX8_addRiver_X8_wayFrom : GoodIn wsX8_addRiver (wsV RX8 269 RX8 yX8_wayFrom wsX8_wayFrom) := goodIn_app (goodIn_of _ (by decide +kernel)) ggX8_addRiver_X8_wayFrom
set_option maxRecDepth 20000 in
theorem ggX8_addRiver_X3_keep : GoodIn wsX8_addRiver wsX3_keep := goodIn_r _ [96, 97, 98, 99, 100, 37, 101, 102, 28, 29, 30, 103, 104, 105, 106, 107, 108, 109, 14, 39, 110, 111, 54, 40, 112, 113, 114, 115, 116, 62, 117, 118, 119, 120, 121, 45, 50, 122, 123, 124, 125, 57, 126, 127, 128, 129, 130, 131, 132, 133, 134, 135, 136, 137, 138, 139, 140, 16, 17, 141, 142, 143, 144, 145, 56, 146, 147, 148, 149, 150, 151, 152, 153, 154, 223, 224, 225, 202, 203, 204, 205, 206, 207, 208, 209, 210, 211, 212, 217, 218, 219, 220, 221, 222, 226, 227, 228, 229, 230] (by decide +kernel) (by decide +kernel)
set_option maxRecDepth 20000 in
theorem gX8_addRiver_X3_keep : GoodIn wsX8_addRiver (wsV RX8 286 RX3 yX3_keep wsX3_keep) := goodIn_app (goodIn_of _ (by decide +kernel)) ggX8_addRiver_X3_keep
set_option maxRecDepth 20000 in
theorem ggX8_addRiver_X7_namesOnWay : GoodIn wsX8_addRiver wsX7_namesOnWay := goodIn_r _ [158, 86, 159, 160, 161, 25, 162, 87, 58, 59, 60, 37, 61, 62, 213, 214, 215, 216, 202, 203, 204, 205, 206] (by decide +kernel) (by decide +kernel)
set_option maxRecDepth 20000 in
theorem gX8_addRiver_X7_namesOnWay : GoodIn wsX8_addRiver (wsV RX8 275 RX7 yX7_namesOnWay wsX7_namesOnWay) := goodIn_app (goodIn_of _ (by decide +kernel)) ggX8_addRiver_X7_namesOnWay
set_option maxRecDepth 20000 in
theorem ggX8_addRiver_X6_takeNames : GoodIn wsX8_addRiver wsX6_takeNames := goodIn_r _ [166, 40, 167, 168, 169, 37, 170, 39, 62, 171, 172, 173, 54, 174, 56, 57, 175, 176, 177, 178, 126, 179, 180, 181, 182, 127, 183, 68, 69, 14, 70, 16, 17, 184, 185, 186, 187, 202, 203, 204, 205, 206, 217, 218, 219, 220, 221, 222, 207, 208, 209, 210, 211, 212] (by decide +kernel) (by decide +kernel)
set_option maxRecDepth 20000 in
theorem gX8_addRiver_X6_takeNames : GoodIn wsX8_addRiver (wsV RX8 295 RX6 yX6_takeNames wsX6_takeNames) := goodIn_app (goodIn_of _ (by decide +kernel)) ggX8_addRiver_X6_takeNames
set_option maxRecDepth 20000 in
theorem ggX8_addRiver_X1_layRiver : GoodIn wsX8_addRiver wsX1_layRiver := goodIn_r _ [191, 50, 141, 122, 207, 208, 209, 210, 211, 212] (by decide +kernel) (by decide +kernel)
set_option maxRecDepth 20000 in
theorem gX8_addRiver_X1_layRiver : GoodIn wsX8_addRiver (wsV RX8 302 RX1 yX1_layRiver wsX1_layRiver) := goodIn_app (goodIn_of _ (by decide +kernel)) ggX8_addRiver_X1_layRiver
theorem dX8_addRiver_0 : decode cX8_addRiver 0 = .ok (.aload_n 0, 1) := by decide +kernel
theorem dX8_addRiver_1 : decode cX8_addRiver 1 = .ok (.iload_n 1, 1) := by decide +kernel
theorem dX8_addRiver_2 : decode cX8_addRiver 2 = .ok (.invokevirtual 161, 3) := by decide +kernel
theorem dX8_addRiver_5 : decode cX8_addRiver 5 = .ok (.aload_n 0, 1) := by decide +kernel
theorem dX8_addRiver_6 : decode cX8_addRiver 6 = .ok (.getfield 10, 3) := by decide +kernel
theorem dX8_addRiver_9 : decode cX8_addRiver 9 = .ok (.getfield 106, 3) := by decide +kernel
theorem dX8_addRiver_12 : decode cX8_addRiver 12 = .ok (.getfield 122, 3) := by decide +kernel
theorem dX8_addRiver_15 : decode cX8_addRiver 15 = .ok (.bipush 8, 2) := by decide +kernel
theorem dX8_addRiver_17 : decode cX8_addRiver 17 = .ok (.if_icmp .lt 6, 3) := by decide +kernel
theorem dX8_addRiver_20 : decode cX8_addRiver 20 = .ok (.bipush (-2), 2) := by decide +kernel
theorem dX8_addRiver_22 : decode cX8_addRiver 22 = .ok (.ireturn, 1) := by decide +kernel
theorem dX8_addRiver_23 : decode cX8_addRiver 23 = .ok (.aload_n 0, 1) := by decide +kernel
theorem dX8_addRiver_24 : decode cX8_addRiver 24 = .ok (.iload_n 1, 1) := by decide +kernel
theorem dX8_addRiver_25 : decode cX8_addRiver 25 = .ok (.invokevirtual 269, 3) := by decide +kernel
theorem dX8_addRiver_28 : decode cX8_addRiver 28 = .ok (.ifCond .ne 6, 3) := by decide +kernel
theorem dX8_addRiver_31 : decode cX8_addRiver 31 = .ok (.bipush (-3), 2) := by decide +kernel
theorem dX8_addRiver_33 : decode cX8_addRiver 33 = .ok (.ireturn, 1) := by decide +kernel
theorem dX8_addRiver_34 : decode cX8_addRiver 34 = .ok (.aload_n 0, 1) := by decide +kernel
theorem dX8_addRiver_35 : decode cX8_addRiver 35 = .ok (.getfield 19, 3) := by decide +kernel
theorem dX8_addRiver_38 : decode cX8_addRiver 38 = .ok (.aload_n 0, 1) := by decide +kernel
theorem dX8_addRiver_39 : decode cX8_addRiver 39 = .ok (.getfield 10, 3) := by decide +kernel
theorem dX8_addRiver_42 : decode cX8_addRiver 42 = .ok (.invokevirtual 286, 3) := by decide +kernel
theorem dX8_addRiver_45 : decode cX8_addRiver 45 = .ok (.aload_n 0, 1) := by decide +kernel
theorem dX8_addRiver_46 : decode cX8_addRiver 46 = .ok (.getfield 10, 3) := by decide +kernel
theorem dX8_addRiver_49 : decode cX8_addRiver 49 = .ok (.aload_n 0, 1) := by decide +kernel
theorem dX8_addRiver_50 : decode cX8_addRiver 50 = .ok (.getfield 26, 3) := by decide +kernel
theorem dX8_addRiver_53 : decode cX8_addRiver 53 = .ok (.aload_n 0, 1) := by decide +kernel
theorem dX8_addRiver_54 : decode cX8_addRiver 54 = .ok (.getfield 10, 3) := by decide +kernel
theorem dX8_addRiver_57 : decode cX8_addRiver 57 = .ok (.invokevirtual 275, 3) := by decide +kernel
theorem dX8_addRiver_60 : decode cX8_addRiver 60 = .ok (.invokevirtual 295, 3) := by decide +kernel
theorem dX8_addRiver_63 : decode cX8_addRiver 63 = .ok (.aload_n 0, 1) := by decide +kernel
theorem dX8_addRiver_64 : decode cX8_addRiver 64 = .ok (.getfield 10, 3) := by decide +kernel
theorem dX8_addRiver_67 : decode cX8_addRiver 67 = .ok (.getfield 106, 3) := by decide +kernel
theorem dX8_addRiver_70 : decode cX8_addRiver 70 = .ok (.aload_n 0, 1) := by decide +kernel
theorem dX8_addRiver_71 : decode cX8_addRiver 71 = .ok (.getfield 26, 3) := by decide +kernel
theorem dX8_addRiver_74 : decode cX8_addRiver 74 = .ok (.getfield 298, 3) := by decide +kernel
theorem dX8_addRiver_77 : decode cX8_addRiver 77 = .ok (.aload_n 0, 1) := by decide +kernel
theorem dX8_addRiver_78 : decode cX8_addRiver 78 = .ok (.getfield 26, 3) := by decide +kernel
theorem dX8_addRiver_81 : decode cX8_addRiver 81 = .ok (.getfield 301, 3) := by decide +kernel
theorem dX8_addRiver_84 : decode cX8_addRiver 84 = .ok (.invokevirtual 302, 3) := by decide +kernel
theorem dX8_addRiver_87 : decode cX8_addRiver 87 = .ok (.aload_n 0, 1) := by decide +kernel
theorem dX8_addRiver_88 : decode cX8_addRiver 88 = .ok (.getfield 10, 3) := by decide +kernel
theorem dX8_addRiver_91 : decode cX8_addRiver 91 = .ok (.getfield 106, 3) := by decide +kernel
theorem dX8_addRiver_94 : decode cX8_addRiver 94 = .ok (.getfield 122, 3) := by decide +kernel
theorem dX8_addRiver_97 : decode cX8_addRiver 97 = .ok (.iconst 1, 1) := by decide +kernel
theorem dX8_addRiver_98 : decode cX8_addRiver 98 = .ok (.isub, 1) := by decide +kernel
theorem dX8_addRiver_99 : decode cX8_addRiver 99 = .ok (.ireturn, 1) := by decide +kernel
set_option maxRecDepth 20000 in
theorem ggX8_dropRiver_X8_needRiver : GoodIn wsX8_dropRiver wsX8_needRiver := goodIn_ca (goodIn_r _ [7, 8, 9, 2, 92, 93, 94, 95, 96, 97, 98, 99, 100, 101, 102, 103, 104, 105, 106, 107, 108, 109, 110, 111, 112] (by decide +kernel) (by decide +kernel)) (goodIn_sub (fun _ h => List.mem_cons_of_mem _ (List.mem_append_right _ h)) (by decide +kernel))
set_option maxRecDepth 20000 in
theorem gX8_dropRiver_X8_needRiver : GoodIn wsX8_dropRiver (wsV RX8 212 RX8 yX8_needRiver wsX8_needRiver) := goodIn_app (goodIn_of _ (by decide +kernel)) ggX8_dropRiver_X8_needRiver
set_option maxRecDepth 20000 in
theorem ggX8_dropRiver_X3_keep : GoodIn wsX8_dropRiver wsX3_keep := goodIn_r _ [14, 15, 16, 17, 18, 19, 20, 21, 22, 23, 24, 25, 26, 27, 28, 29, 30, 31, 32, 33, 34, 35, 36, 37, 38, 39, 40, 41, 42, 43, 44, 45, 46, 47, 48, 49, 50, 51, 52, 53, 54, 55, 56, 57, 58, 59, 60, 61, 62, 63, 64, 65, 66, 67, 68, 69, 70, 71, 72, 73, 74, 75, 76, 77, 78, 79, 80, 81, 82, 83, 84, 85, 86, 87, 113, 114, 115, 102, 103, 104, 105, 106, 107, 108, 109, 110, 111, 112, 116, 117, 118, 119, 120, 121, 122, 123, 124, 125, 126] (by decide +kernel) (by decide +kernel)
set_option maxRecDepth 20000 in
theorem gX8_dropRiver_X3_keep : GoodIn wsX8_dropRiver (wsV RX8 286 RX3 yX3_keep wsX3_keep) := goodIn_app (goodIn_of _ (by decide +kernel)) ggX8_dropRiver_X3_keep
set_option maxRecDepth 20000 in
theorem ggX8_dropRiver_X1_dryRiver : GoodIn wsX8_dropRiver wsX1_dryRiver := goodIn_r _ [91, 50, 51, 73, 107, 108, 109, 110, 111, 112] (by decide +kernel) (by decide +kernel)
set_option maxRecDepth 20000 in
theorem gX8_dropRiver_X1_dryRiver : GoodIn wsX8_dropRiver (wsV RX8 306 RX1 yX1_dryRiver wsX1_dryRiver) := goodIn_app (goodIn_of _ (by decide +kernel)) ggX8_dropRiver_X1_dryRiver
theorem dX8_dropRiver_0 : decode cX8_dropRiver 0 = .ok (.aload_n 0, 1) := by decide +kernel
theorem dX8_dropRiver_1 : decode cX8_dropRiver 1 = .ok (.iload_n 1, 1) := by decide +kernel
theorem dX8_dropRiver_2 : decode cX8_dropRiver 2 = .ok (.invokevirtual 212, 3) := by decide +kernel
theorem dX8_dropRiver_5 : decode cX8_dropRiver 5 = .ok (.aload_n 0, 1) := by decide +kernel
theorem dX8_dropRiver_6 : decode cX8_dropRiver 6 = .ok (.getfield 19, 3) := by decide +kernel
theorem dX8_dropRiver_9 : decode cX8_dropRiver 9 = .ok (.aload_n 0, 1) := by decide +kernel
theorem dX8_dropRiver_10 : decode cX8_dropRiver 10 = .ok (.getfield 10, 3) := by decide +kernel
theorem dX8_dropRiver_13 : decode cX8_dropRiver 13 = .ok (.invokevirtual 286, 3) := by decide +kernel
theorem dX8_dropRiver_16 : decode cX8_dropRiver 16 = .ok (.aload_n 0, 1) := by decide +kernel
theorem dX8_dropRiver_17 : decode cX8_dropRiver 17 = .ok (.getfield 10, 3) := by decide +kernel
theorem dX8_dropRiver_20 : decode cX8_dropRiver 20 = .ok (.getfield 106, 3) := by decide +kernel
theorem dX8_dropRiver_23 : decode cX8_dropRiver 23 = .ok (.iload_n 1, 1) := by decide +kernel
theorem dX8_dropRiver_24 : decode cX8_dropRiver 24 = .ok (.invokevirtual 306, 3) := by decide +kernel
theorem dX8_dropRiver_27 : decode cX8_dropRiver 27 = .ok (.ireturn, 1) := by decide +kernel
set_option maxRecDepth 20000 in
theorem ggX8_erode_X8_needCell : GoodIn wsX8_erode wsX8_needCell := goodIn_ca (goodIn_r _ [7, 8, 9, 1, 10, 11, 12, 13, 14, 15, 16, 151, 152, 153, 154, 155, 156, 157, 158, 159, 160, 161, 162, 163, 164, 165, 166, 167, 168, 169, 170, 171] (by decide +kernel) (by decide +kernel)) (goodIn_sub (fun _ h => List.mem_cons_of_mem _ (List.mem_append_right _ h)) (by decide +kernel))
set_option maxRecDepth 20000 in
theorem gX8_erode_X8_needCell : GoodIn wsX8_erode (wsV RX8 161 RX8 yX8_needCell wsX8_needCell) := goodIn_app (goodIn_of _ (by decide +kernel)) ggX8_erode_X8_needCell
set_option maxRecDepth 20000 in
theorem ggX8_erode_X6_isOpen : GoodIn wsX8_erode wsX6_isOpen := goodIn_r _ [21, 22, 23, 24, 25, 26, 13, 27, 28, 29, 30, 31, 32, 33, 34, 35, 36, 37, 38, 39, 40, 161, 162, 163, 164, 165, 166, 167, 168, 169, 170, 171, 172, 173, 174, 175, 176, 177] (by decide +kernel) (by decide +kernel)
set_option maxRecDepth 20000 in
theorem gX8_erode_X6_isOpen : GoodIn wsX8_erode (wsV RX8 231 RX6 yX6_isOpen wsX6_isOpen) := goodIn_app (goodIn_of _ (by decide +kernel)) ggX8_erode_X6_isOpen
set_option maxRecDepth 20000 in
theorem ggX8_erode_X3_keep : GoodIn wsX8_erode wsX3_keep := goodIn_r _ [45, 46, 47, 48, 49, 20, 50, 51, 52, 53, 54, 55, 56, 57, 58, 59, 60, 61, 13, 22, 62, 63, 37, 23, 64, 65, 66, 67, 68, 69, 70, 71, 72, 73, 74, 28, 33, 75, 76, 77, 78, 40, 79, 80, 81, 82, 83, 84, 85, 86, 87, 88, 89, 90, 91, 92, 93, 15, 16, 94, 95, 96, 97, 98, 39, 99, 100, 101, 102, 103, 104, 105, 106, 107, 178, 179, 180, 161, 162, 163, 164, 165, 166, 167, 168, 169, 170, 171, 172, 173, 174, 175, 176, 177, 181, 182, 183, 184, 185] (by decide +kernel) (by decide +kernel)
set_option maxRecDepth 20000 in
theorem gX8_erode_X3_keep : GoodIn wsX8_erode (wsV RX8 286 RX3 yX3_keep wsX3_keep) := goodIn_app (goodIn_of _ (by decide +kernel)) ggX8_erode_X3_keep
set_option maxRecDepth 20000 in
theorem ggX8_erode_X6_namesIn : GoodIn wsX8_erode wsX6_namesIn := goodIn_r _ [111, 69, 161, 162, 163, 164, 165] (by decide +kernel) (by decide +kernel)
set_option maxRecDepth 20000 in
theorem gX8_erode_X6_namesIn : GoodIn wsX8_erode (wsV RX8 180 RX6 yX6_namesIn wsX6_namesIn) := goodIn_app (goodIn_of _ (by decide +kernel)) ggX8_erode_X6_namesIn
set_option maxRecDepth 20000 in
theorem ggX8_erode_X6_takeNames : GoodIn wsX8_erode wsX6_takeNames := goodIn_r _ [115, 23, 116, 117, 118, 20, 119, 22, 69, 120, 121, 122, 37, 123, 39, 40, 124, 125, 126, 127, 79, 128, 129, 130, 131, 80, 132, 133, 134, 13, 135, 15, 16, 136, 137, 138, 139, 161, 162, 163, 164, 165, 172, 173, 174, 175, 176, 177, 166, 167, 168, 169, 170, 171] (by decide +kernel) (by decide +kernel)
set_option maxRecDepth 20000 in
theorem gX8_erode_X6_takeNames : GoodIn wsX8_erode (wsV RX8 295 RX6 yX6_takeNames wsX6_takeNames) := goodIn_app (goodIn_of _ (by decide +kernel)) ggX8_erode_X6_takeNames
set_option maxRecDepth 20000 in
theorem ggX8_erode_X1_setLand : GoodIn wsX8_erode wsX1_setLand := goodIn_r _ [143, 28, 166, 167, 168, 169, 170, 171] (by decide +kernel) (by decide +kernel)
set_option maxRecDepth 20000 in
theorem gX8_erode_X1_setLand : GoodIn wsX8_erode (wsV RX8 309 RX1 yX1_setLand wsX1_setLand) := goodIn_app (goodIn_of _ (by decide +kernel)) ggX8_erode_X1_setLand
set_option maxRecDepth 20000 in
theorem ggX8_erode_J6_bitCount_0f7a4 : GoodIn wsX8_erode wsJ6_bitCount_0f7a4 := goodIn_r _ [147, 148, 149, 150] (by decide +kernel) (by decide +kernel)
set_option maxRecDepth 20000 in
theorem gX8_erode_J6_bitCount_0f7a4 : GoodIn wsX8_erode (va_wsS RX8 128 yJ6_bitCount_0f7a4 wsJ6_bitCount_0f7a4) := goodIn_app (goodIn_of _ (by decide +kernel)) ggX8_erode_J6_bitCount_0f7a4
theorem dX8_erode_0 : decode cX8_erode 0 = .ok (.aload_n 0, 1) := by decide +kernel
theorem dX8_erode_1 : decode cX8_erode 1 = .ok (.iload_n 1, 1) := by decide +kernel
theorem dX8_erode_2 : decode cX8_erode 2 = .ok (.invokevirtual 161, 3) := by decide +kernel
theorem dX8_erode_5 : decode cX8_erode 5 = .ok (.aload_n 0, 1) := by decide +kernel
theorem dX8_erode_6 : decode cX8_erode 6 = .ok (.getfield 10, 3) := by decide +kernel
theorem dX8_erode_9 : decode cX8_erode 9 = .ok (.iload_n 1, 1) := by decide +kernel
theorem dX8_erode_10 : decode cX8_erode 10 = .ok (.invokevirtual 231, 3) := by decide +kernel
theorem dX8_erode_13 : decode cX8_erode 13 = .ok (.ifCond .ne 6, 3) := by decide +kernel
theorem dX8_erode_16 : decode cX8_erode 16 = .ok (.bipush (-3), 2) := by decide +kernel
theorem dX8_erode_18 : decode cX8_erode 18 = .ok (.ireturn, 1) := by decide +kernel
theorem dX8_erode_19 : decode cX8_erode 19 = .ok (.aload_n 0, 1) := by decide +kernel
theorem dX8_erode_20 : decode cX8_erode 20 = .ok (.getfield 19, 3) := by decide +kernel
theorem dX8_erode_23 : decode cX8_erode 23 = .ok (.aload_n 0, 1) := by decide +kernel
theorem dX8_erode_24 : decode cX8_erode 24 = .ok (.getfield 10, 3) := by decide +kernel
theorem dX8_erode_27 : decode cX8_erode 27 = .ok (.invokevirtual 286, 3) := by decide +kernel
theorem dX8_erode_30 : decode cX8_erode 30 = .ok (.aload_n 0, 1) := by decide +kernel
theorem dX8_erode_31 : decode cX8_erode 31 = .ok (.getfield 10, 3) := by decide +kernel
theorem dX8_erode_34 : decode cX8_erode 34 = .ok (.iload_n 1, 1) := by decide +kernel
theorem dX8_erode_35 : decode cX8_erode 35 = .ok (.invokevirtual 180, 3) := by decide +kernel
theorem dX8_erode_38 : decode cX8_erode 38 = .ok (.istore_n 2, 1) := by decide +kernel
theorem dX8_erode_39 : decode cX8_erode 39 = .ok (.aload_n 0, 1) := by decide +kernel
theorem dX8_erode_40 : decode cX8_erode 40 = .ok (.getfield 10, 3) := by decide +kernel
theorem dX8_erode_43 : decode cX8_erode 43 = .ok (.iload_n 2, 1) := by decide +kernel
theorem dX8_erode_44 : decode cX8_erode 44 = .ok (.invokevirtual 295, 3) := by decide +kernel
theorem dX8_erode_47 : decode cX8_erode 47 = .ok (.aload_n 0, 1) := by decide +kernel
theorem dX8_erode_48 : decode cX8_erode 48 = .ok (.getfield 10, 3) := by decide +kernel
theorem dX8_erode_51 : decode cX8_erode 51 = .ok (.getfield 106, 3) := by decide +kernel
theorem dX8_erode_54 : decode cX8_erode 54 = .ok (.iload_n 1, 1) := by decide +kernel
theorem dX8_erode_55 : decode cX8_erode 55 = .ok (.iconst 0, 1) := by decide +kernel
theorem dX8_erode_56 : decode cX8_erode 56 = .ok (.invokevirtual 309, 3) := by decide +kernel
theorem dX8_erode_59 : decode cX8_erode 59 = .ok (.iload_n 2, 1) := by decide +kernel
theorem dX8_erode_60 : decode cX8_erode 60 = .ok (.invokestatic 128, 3) := by decide +kernel
theorem dX8_erode_63 : decode cX8_erode 63 = .ok (.ireturn, 1) := by decide +kernel
set_option maxRecDepth 20000 in
theorem ggX8_raise_X8_needCell : GoodIn wsX8_raise wsX8_needCell := goodIn_ca (goodIn_r _ [7, 8, 9, 1, 10, 11, 12, 13, 14, 15, 16, 149, 150, 151, 152, 153, 154, 155, 156, 157, 158, 159, 160, 161, 162, 163, 164, 165, 166, 167, 168, 169] (by decide +kernel) (by decide +kernel)) (goodIn_sub (fun _ h => List.mem_cons_of_mem _ (List.mem_append_right _ h)) (by decide +kernel))
set_option maxRecDepth 20000 in
theorem gX8_raise_X8_needCell : GoodIn wsX8_raise (wsV RX8 161 RX8 yX8_needCell wsX8_needCell) := goodIn_app (goodIn_of _ (by decide +kernel)) ggX8_raise_X8_needCell
set_option maxRecDepth 20000 in
theorem ggX8_raise_X1_isLand : GoodIn wsX8_raise wsX1_isLand := goodIn_r _ [20, 21, 164, 165, 166, 167, 168, 169] (by decide +kernel) (by decide +kernel)
set_option maxRecDepth 20000 in
theorem gX8_raise_X1_isLand : GoodIn wsX8_raise (wsV RX8 168 RX1 yX1_isLand wsX1_isLand) := goodIn_app (goodIn_of _ (by decide +kernel)) ggX8_raise_X1_isLand
set_option maxRecDepth 20000 in
theorem ggX8_raise_X6_shutsHarbour : GoodIn wsX8_raise wsX6_shutsHarbour := goodIn_r _ [26, 27, 28, 29, 30, 31, 32, 33, 34, 35, 36, 37, 38, 13, 39, 40, 41, 42, 43, 15, 16, 44, 18, 19, 20, 21, 159, 160, 161, 162, 163, 170, 171, 172, 173, 174, 175, 164, 165, 166, 167, 168, 169] (by decide +kernel) (by decide +kernel)
set_option maxRecDepth 20000 in
theorem gX8_raise_X6_shutsHarbour : GoodIn wsX8_raise (wsV RX8 313 RX6 yX6_shutsHarbour wsX6_shutsHarbour) := goodIn_app (goodIn_of _ (by decide +kernel)) ggX8_raise_X6_shutsHarbour
set_option maxRecDepth 20000 in
theorem ggX8_raise_X3_keep : GoodIn wsX8_raise wsX3_keep := goodIn_r _ [49, 50, 51, 52, 53, 25, 54, 55, 56, 57, 58, 59, 60, 61, 62, 63, 64, 65, 13, 28, 66, 67, 32, 27, 68, 69, 70, 71, 72, 73, 74, 75, 76, 77, 78, 21, 79, 80, 81, 82, 83, 35, 84, 85, 86, 87, 88, 89, 90, 91, 92, 93, 94, 95, 96, 97, 98, 15, 16, 99, 100, 101, 102, 103, 34, 104, 105, 106, 107, 108, 109, 110, 111, 112, 176, 177, 178, 159, 160, 161, 162, 163, 164, 165, 166, 167, 168, 169, 170, 171, 172, 173, 174, 175, 179, 180, 181, 182, 183] (by decide +kernel) (by decide +kernel)
set_option maxRecDepth 20000 in
theorem gX8_raise_X3_keep : GoodIn wsX8_raise (wsV RX8 286 RX3 yX3_keep wsX3_keep) := goodIn_app (goodIn_of _ (by decide +kernel)) ggX8_raise_X3_keep
set_option maxRecDepth 20000 in
theorem ggX8_raise_X6_namesWithBackTo : GoodIn wsX8_raise wsX6_namesWithBackTo := goodIn_r _ [116, 27, 28, 117, 118, 119, 32, 120, 34, 84, 29, 30, 31, 33, 35, 121, 41, 42, 13, 43, 15, 16, 159, 160, 161, 162, 163, 170, 171, 172, 173, 174, 175, 164, 165, 166, 167, 168, 169] (by decide +kernel) (by decide +kernel)
set_option maxRecDepth 20000 in
theorem gX8_raise_X6_namesWithBackTo : GoodIn wsX8_raise (wsV RX8 316 RX6 yX6_namesWithBackTo wsX6_namesWithBackTo) := goodIn_app (goodIn_of _ (by decide +kernel)) ggX8_raise_X6_namesWithBackTo
set_option maxRecDepth 20000 in
theorem ggX8_raise_X6_takeNames : GoodIn wsX8_raise wsX6_takeNames := goodIn_r _ [125, 27, 126, 127, 128, 25, 129, 28, 73, 29, 30, 31, 32, 33, 34, 35, 117, 118, 119, 120, 84, 130, 131, 132, 133, 85, 121, 41, 42, 13, 43, 15, 16, 134, 135, 136, 137, 159, 160, 161, 162, 163, 170, 171, 172, 173, 174, 175, 164, 165, 166, 167, 168, 169] (by decide +kernel) (by decide +kernel)
set_option maxRecDepth 20000 in
theorem gX8_raise_X6_takeNames : GoodIn wsX8_raise (wsV RX8 295 RX6 yX6_takeNames wsX6_takeNames) := goodIn_app (goodIn_of _ (by decide +kernel)) ggX8_raise_X6_takeNames
set_option maxRecDepth 20000 in
theorem ggX8_raise_X1_setLand : GoodIn wsX8_raise wsX1_setLand := goodIn_r _ [141, 21, 164, 165, 166, 167, 168, 169] (by decide +kernel) (by decide +kernel)
set_option maxRecDepth 20000 in
theorem gX8_raise_X1_setLand : GoodIn wsX8_raise (wsV RX8 309 RX1 yX1_setLand wsX1_setLand) := goodIn_app (goodIn_of _ (by decide +kernel)) ggX8_raise_X1_setLand
set_option maxRecDepth 20000 in
theorem ggX8_raise_J6_bitCount_0f7a4 : GoodIn wsX8_raise wsJ6_bitCount_0f7a4 := goodIn_r _ [145, 146, 147, 148] (by decide +kernel) (by decide +kernel)
set_option maxRecDepth 20000 in
theorem gX8_raise_J6_bitCount_0f7a4 : GoodIn wsX8_raise (va_wsS RX8 128 yJ6_bitCount_0f7a4 wsJ6_bitCount_0f7a4) := goodIn_app (goodIn_of _ (by decide +kernel)) ggX8_raise_J6_bitCount_0f7a4
theorem dX8_raise_0 : decode cX8_raise 0 = .ok (.aload_n 0, 1) := by decide +kernel
theorem dX8_raise_1 : decode cX8_raise 1 = .ok (.iload_n 1, 1) := by decide +kernel
theorem dX8_raise_2 : decode cX8_raise 2 = .ok (.invokevirtual 161, 3) := by decide +kernel
theorem dX8_raise_5 : decode cX8_raise 5 = .ok (.aload_n 0, 1) := by decide +kernel
theorem dX8_raise_6 : decode cX8_raise 6 = .ok (.getfield 10, 3) := by decide +kernel
theorem dX8_raise_9 : decode cX8_raise 9 = .ok (.getfield 106, 3) := by decide +kernel
theorem dX8_raise_12 : decode cX8_raise 12 = .ok (.iload_n 1, 1) := by decide +kernel
theorem dX8_raise_13 : decode cX8_raise 13 = .ok (.invokevirtual 168, 3) := by decide +kernel
theorem dX8_raise_16 : decode cX8_raise 16 = .ok (.ifCond .ne 14, 3) := by decide +kernel
theorem dX8_raise_19 : decode cX8_raise 19 = .ok (.aload_n 0, 1) := by decide +kernel
theorem dX8_raise_20 : decode cX8_raise 20 = .ok (.getfield 10, 3) := by decide +kernel
theorem dX8_raise_23 : decode cX8_raise 23 = .ok (.iload_n 1, 1) := by decide +kernel
theorem dX8_raise_24 : decode cX8_raise 24 = .ok (.invokevirtual 313, 3) := by decide +kernel
theorem dX8_raise_27 : decode cX8_raise 27 = .ok (.ifCond .eq 6, 3) := by decide +kernel
theorem dX8_raise_30 : decode cX8_raise 30 = .ok (.bipush (-3), 2) := by decide +kernel
theorem dX8_raise_32 : decode cX8_raise 32 = .ok (.ireturn, 1) := by decide +kernel
theorem dX8_raise_33 : decode cX8_raise 33 = .ok (.aload_n 0, 1) := by decide +kernel
theorem dX8_raise_34 : decode cX8_raise 34 = .ok (.getfield 19, 3) := by decide +kernel
theorem dX8_raise_37 : decode cX8_raise 37 = .ok (.aload_n 0, 1) := by decide +kernel
theorem dX8_raise_38 : decode cX8_raise 38 = .ok (.getfield 10, 3) := by decide +kernel
theorem dX8_raise_41 : decode cX8_raise 41 = .ok (.invokevirtual 286, 3) := by decide +kernel
theorem dX8_raise_44 : decode cX8_raise 44 = .ok (.aload_n 0, 1) := by decide +kernel
theorem dX8_raise_45 : decode cX8_raise 45 = .ok (.getfield 10, 3) := by decide +kernel
theorem dX8_raise_48 : decode cX8_raise 48 = .ok (.iload_n 1, 1) := by decide +kernel
theorem dX8_raise_49 : decode cX8_raise 49 = .ok (.invokevirtual 316, 3) := by decide +kernel
theorem dX8_raise_52 : decode cX8_raise 52 = .ok (.istore_n 2, 1) := by decide +kernel
theorem dX8_raise_53 : decode cX8_raise 53 = .ok (.aload_n 0, 1) := by decide +kernel
theorem dX8_raise_54 : decode cX8_raise 54 = .ok (.getfield 10, 3) := by decide +kernel
theorem dX8_raise_57 : decode cX8_raise 57 = .ok (.iload_n 2, 1) := by decide +kernel
theorem dX8_raise_58 : decode cX8_raise 58 = .ok (.invokevirtual 295, 3) := by decide +kernel
theorem dX8_raise_61 : decode cX8_raise 61 = .ok (.aload_n 0, 1) := by decide +kernel
theorem dX8_raise_62 : decode cX8_raise 62 = .ok (.getfield 10, 3) := by decide +kernel
theorem dX8_raise_65 : decode cX8_raise 65 = .ok (.getfield 106, 3) := by decide +kernel
theorem dX8_raise_68 : decode cX8_raise 68 = .ok (.iload_n 1, 1) := by decide +kernel
theorem dX8_raise_69 : decode cX8_raise 69 = .ok (.iconst 1, 1) := by decide +kernel
theorem dX8_raise_70 : decode cX8_raise 70 = .ok (.invokevirtual 309, 3) := by decide +kernel
theorem dX8_raise_73 : decode cX8_raise 73 = .ok (.iload_n 2, 1) := by decide +kernel
theorem dX8_raise_74 : decode cX8_raise 74 = .ok (.invokestatic 128, 3) := by decide +kernel
theorem dX8_raise_77 : decode cX8_raise 77 = .ok (.ireturn, 1) := by decide +kernel
set_option maxRecDepth 20000 in
theorem ggX8_sail_X8_needHarbour : GoodIn wsX8_sail wsX8_needHarbour := goodIn_ca (goodIn_r _ [7, 8, 9, 1, 92, 93, 94, 95, 96, 97, 98, 99, 100, 101, 102, 103, 104, 105, 106, 112, 113, 114, 115, 116, 117] (by decide +kernel) (by decide +kernel)) (goodIn_sub (fun _ h => List.mem_cons_of_mem _ (List.mem_append_right _ h)) (by decide +kernel))
set_option maxRecDepth 20000 in
theorem gX8_sail_X8_needHarbour : GoodIn wsX8_sail (wsV RX8 188 RX8 yX8_needHarbour wsX8_needHarbour) := goodIn_app (goodIn_of _ (by decide +kernel)) ggX8_sail_X8_needHarbour
set_option maxRecDepth 20000 in
theorem ggX8_sail_X3_keep : GoodIn wsX8_sail wsX3_keep := goodIn_r _ [14, 15, 16, 17, 18, 19, 20, 21, 22, 23, 24, 25, 26, 27, 28, 29, 30, 31, 32, 33, 34, 35, 36, 37, 38, 39, 40, 41, 42, 43, 44, 45, 46, 47, 48, 49, 50, 51, 52, 53, 54, 55, 56, 57, 58, 59, 60, 61, 62, 63, 64, 65, 66, 67, 68, 69, 70, 71, 72, 73, 74, 75, 76, 77, 78, 79, 80, 81, 82, 83, 84, 85, 86, 87, 118, 119, 120, 102, 103, 104, 105, 106, 121, 122, 123, 124, 125, 126, 112, 113, 114, 115, 116, 117, 107, 108, 109, 110, 111] (by decide +kernel) (by decide +kernel)
set_option maxRecDepth 20000 in
theorem gX8_sail_X3_keep : GoodIn wsX8_sail (wsV RX8 286 RX3 yX3_keep wsX3_keep) := goodIn_app (goodIn_of _ (by decide +kernel)) ggX8_sail_X3_keep
set_option maxRecDepth 20000 in
theorem ggX8_sail_X4_addStop : GoodIn wsX8_sail wsX4_addStop := goodIn_r _ [91, 84, 62, 107, 108, 109, 110, 111] (by decide +kernel) (by decide +kernel)
set_option maxRecDepth 20000 in
theorem gX8_sail_X4_addStop : GoodIn wsX8_sail (wsV RX8 319 RX4 yX4_addStop wsX4_addStop) := goodIn_app (goodIn_of _ (by decide +kernel)) ggX8_sail_X4_addStop
theorem dX8_sail_0 : decode cX8_sail 0 = .ok (.aload_n 0, 1) := by decide +kernel
theorem dX8_sail_1 : decode cX8_sail 1 = .ok (.iload_n 1, 1) := by decide +kernel
theorem dX8_sail_2 : decode cX8_sail 2 = .ok (.invokevirtual 188, 3) := by decide +kernel
theorem dX8_sail_5 : decode cX8_sail 5 = .ok (.aload_n 0, 1) := by decide +kernel
theorem dX8_sail_6 : decode cX8_sail 6 = .ok (.getfield 10, 3) := by decide +kernel
theorem dX8_sail_9 : decode cX8_sail 9 = .ok (.getfield 137, 3) := by decide +kernel
theorem dX8_sail_12 : decode cX8_sail 12 = .ok (.getfield 141, 3) := by decide +kernel
theorem dX8_sail_15 : decode cX8_sail 15 = .ok (.bipush 16, 2) := by decide +kernel
theorem dX8_sail_17 : decode cX8_sail 17 = .ok (.if_icmp .lt 6, 3) := by decide +kernel
theorem dX8_sail_20 : decode cX8_sail 20 = .ok (.bipush (-2), 2) := by decide +kernel
theorem dX8_sail_22 : decode cX8_sail 22 = .ok (.ireturn, 1) := by decide +kernel
theorem dX8_sail_23 : decode cX8_sail 23 = .ok (.aload_n 0, 1) := by decide +kernel
theorem dX8_sail_24 : decode cX8_sail 24 = .ok (.getfield 19, 3) := by decide +kernel
theorem dX8_sail_27 : decode cX8_sail 27 = .ok (.aload_n 0, 1) := by decide +kernel
theorem dX8_sail_28 : decode cX8_sail 28 = .ok (.getfield 10, 3) := by decide +kernel
theorem dX8_sail_31 : decode cX8_sail 31 = .ok (.invokevirtual 286, 3) := by decide +kernel
theorem dX8_sail_34 : decode cX8_sail 34 = .ok (.aload_n 0, 1) := by decide +kernel
theorem dX8_sail_35 : decode cX8_sail 35 = .ok (.getfield 10, 3) := by decide +kernel
theorem dX8_sail_38 : decode cX8_sail 38 = .ok (.getfield 137, 3) := by decide +kernel
theorem dX8_sail_41 : decode cX8_sail 41 = .ok (.iload_n 1, 1) := by decide +kernel
theorem dX8_sail_42 : decode cX8_sail 42 = .ok (.invokevirtual 319, 3) := by decide +kernel
theorem dX8_sail_45 : decode cX8_sail 45 = .ok (.aload_n 0, 1) := by decide +kernel
theorem dX8_sail_46 : decode cX8_sail 46 = .ok (.getfield 10, 3) := by decide +kernel
theorem dX8_sail_49 : decode cX8_sail 49 = .ok (.getfield 137, 3) := by decide +kernel
theorem dX8_sail_52 : decode cX8_sail 52 = .ok (.getfield 141, 3) := by decide +kernel
theorem dX8_sail_55 : decode cX8_sail 55 = .ok (.ireturn, 1) := by decide +kernel
set_option maxRecDepth 20000 in
theorem ggX8_cut_X3_keep : GoodIn wsX8_cut wsX3_keep := goodIn_r _ [9, 10, 11, 12, 13, 14, 15, 16, 17, 18, 19, 20, 21, 22, 23, 24, 25, 26, 27, 28, 29, 30, 31, 32, 33, 34, 35, 36, 37, 38, 39, 40, 41, 42, 43, 44, 45, 46, 47, 48, 49, 50, 51, 52, 53, 54, 55, 56, 57, 58, 59, 60, 61, 62, 63, 64, 65, 66, 67, 68, 69, 70, 71, 72, 73, 74, 75, 76, 77, 78, 79, 80, 81, 82, 111, 112, 113, 101, 102, 103, 104, 105, 114, 115, 116, 117, 118, 119, 120, 121, 122, 123, 124, 125, 106, 107, 108, 109, 110] (by decide +kernel) (by decide +kernel)
set_option maxRecDepth 20000 in
theorem gX8_cut_X3_keep : GoodIn wsX8_cut (wsV RX8 286 RX3 yX3_keep wsX3_keep) := goodIn_app (goodIn_of _ (by decide +kernel)) ggX8_cut_X3_keep
set_option maxRecDepth 20000 in
theorem ggX8_cut_X4_stopAt : GoodIn wsX8_cut wsX4_stopAt := goodIn_r _ [86, 79, 57, 106, 107, 108, 109, 110] (by decide +kernel) (by decide +kernel)
set_option maxRecDepth 20000 in
theorem gX8_cut_X4_stopAt : GoodIn wsX8_cut (wsV RX8 218 RX4 yX4_stopAt wsX4_stopAt) := goodIn_app (goodIn_of _ (by decide +kernel)) ggX8_cut_X4_stopAt
set_option maxRecDepth 20000 in
theorem ggX8_cut_X4_dropStop : GoodIn wsX8_cut wsX4_dropStop := goodIn_r _ [90, 79, 57, 80, 106, 107, 108, 109, 110] (by decide +kernel) (by decide +kernel)
set_option maxRecDepth 20000 in
theorem gX8_cut_X4_dropStop : GoodIn wsX8_cut (wsV RX8 327 RX4 yX4_dropStop wsX4_dropStop) := goodIn_app (goodIn_of _ (by decide +kernel)) ggX8_cut_X4_dropStop
theorem dX8_cut_0 : decode cX8_cut 0 = .ok (.iload_n 1, 1) := by decide +kernel
theorem dX8_cut_1 : decode cX8_cut 1 = .ok (.ifCond .lt 17, 3) := by decide +kernel
theorem dX8_cut_4 : decode cX8_cut 4 = .ok (.iload_n 1, 1) := by decide +kernel
theorem dX8_cut_5 : decode cX8_cut 5 = .ok (.aload_n 0, 1) := by decide +kernel
theorem dX8_cut_6 : decode cX8_cut 6 = .ok (.getfield 10, 3) := by decide +kernel
theorem dX8_cut_9 : decode cX8_cut 9 = .ok (.getfield 137, 3) := by decide +kernel
theorem dX8_cut_12 : decode cX8_cut 12 = .ok (.getfield 141, 3) := by decide +kernel
theorem dX8_cut_15 : decode cX8_cut 15 = .ok (.if_icmp .lt 14, 3) := by decide +kernel
theorem dX8_cut_18 : decode cX8_cut 18 = .ok (.new 322, 3) := by decide +kernel
theorem dX8_cut_21 : decode cX8_cut 21 = .ok (.dup, 1) := by decide +kernel
theorem dX8_cut_22 : decode cX8_cut 22 = .ok (.ldc_w 324, 3) := by decide +kernel
theorem dX8_cut_25 : decode cX8_cut 25 = .ok (.invokespecial 326, 3) := by decide +kernel
theorem dX8_cut_28 : decode cX8_cut 28 = .ok (.athrow, 1) := by decide +kernel
theorem dX8_cut_29 : decode cX8_cut 29 = .ok (.aload_n 0, 1) := by decide +kernel
theorem dX8_cut_30 : decode cX8_cut 30 = .ok (.getfield 19, 3) := by decide +kernel
theorem dX8_cut_33 : decode cX8_cut 33 = .ok (.aload_n 0, 1) := by decide +kernel
theorem dX8_cut_34 : decode cX8_cut 34 = .ok (.getfield 10, 3) := by decide +kernel
theorem dX8_cut_37 : decode cX8_cut 37 = .ok (.invokevirtual 286, 3) := by decide +kernel
theorem dX8_cut_40 : decode cX8_cut 40 = .ok (.aload_n 0, 1) := by decide +kernel
theorem dX8_cut_41 : decode cX8_cut 41 = .ok (.getfield 10, 3) := by decide +kernel
theorem dX8_cut_44 : decode cX8_cut 44 = .ok (.getfield 137, 3) := by decide +kernel
theorem dX8_cut_47 : decode cX8_cut 47 = .ok (.iload_n 1, 1) := by decide +kernel
theorem dX8_cut_48 : decode cX8_cut 48 = .ok (.invokevirtual 218, 3) := by decide +kernel
theorem dX8_cut_51 : decode cX8_cut 51 = .ok (.istore_n 2, 1) := by decide +kernel
theorem dX8_cut_52 : decode cX8_cut 52 = .ok (.aload_n 0, 1) := by decide +kernel
theorem dX8_cut_53 : decode cX8_cut 53 = .ok (.getfield 10, 3) := by decide +kernel
theorem dX8_cut_56 : decode cX8_cut 56 = .ok (.getfield 137, 3) := by decide +kernel
theorem dX8_cut_59 : decode cX8_cut 59 = .ok (.iload_n 1, 1) := by decide +kernel
theorem dX8_cut_60 : decode cX8_cut 60 = .ok (.invokevirtual 327, 3) := by decide +kernel
theorem dX8_cut_63 : decode cX8_cut 63 = .ok (.iload_n 2, 1) := by decide +kernel
theorem dX8_cut_64 : decode cX8_cut 64 = .ok (.ireturn, 1) := by decide +kernel
set_option maxRecDepth 20000 in
theorem ggX8_turnPage_X8_needTurn : GoodIn wsX8_turnPage wsX8_needTurn := goodIn_ca (goodIn_r _ [6, 7, 8] (by decide +kernel) (by decide +kernel)) (goodIn_sub (fun _ h => List.mem_cons_of_mem _ (List.mem_append_right _ h)) (by decide +kernel))
set_option maxRecDepth 20000 in
theorem gX8_turnPage_X8_needTurn : GoodIn wsX8_turnPage (va_wsS RX8 240 yX8_needTurn wsX8_needTurn) := goodIn_app (goodIn_of _ (by decide +kernel)) ggX8_turnPage_X8_needTurn
set_option maxRecDepth 20000 in
theorem ggX8_turnPage_X3_keep : GoodIn wsX8_turnPage wsX3_keep := goodIn_r _ [13, 14, 15, 16, 17, 18, 19, 20, 21, 22, 23, 24, 25, 26, 27, 28, 29, 30, 31, 32, 33, 34, 35, 36, 37, 38, 39, 40, 41, 42, 43, 44, 45, 46, 47, 48, 49, 50, 51, 52, 53, 54, 55, 56, 57, 58, 59, 60, 61, 62, 63, 64, 65, 66, 67, 68, 69, 70, 71, 72, 73, 74, 75, 76, 77, 78, 79, 80, 81, 82, 83, 84, 85, 86, 112, 113, 114, 107, 108, 109, 110, 111, 115, 116, 117, 118, 119, 120, 121, 122, 123, 124, 125, 126, 127, 128, 129, 130, 131] (by decide +kernel) (by decide +kernel)
set_option maxRecDepth 20000 in
theorem gX8_turnPage_X3_keep : GoodIn wsX8_turnPage (wsV RX8 286 RX3 yX3_keep wsX3_keep) := goodIn_app (goodIn_of _ (by decide +kernel)) ggX8_turnPage_X3_keep
set_option maxRecDepth 20000 in
theorem ggX8_turnPage_X4_turnTo : GoodIn wsX8_turnPage wsX4_turnTo := goodIn_r _ [90, 85, 86, 91, 5, 92, 93, 94, 22, 95, 96, 21, 23, 127, 128, 129, 130, 131] (by decide +kernel) (by decide +kernel)
set_option maxRecDepth 20000 in
theorem gX8_turnPage_X4_turnTo : GoodIn wsX8_turnPage (wsV RX8 330 RX4 yX4_turnTo wsX4_turnTo) := goodIn_app (goodIn_of _ (by decide +kernel)) ggX8_turnPage_X4_turnTo
theorem dX8_turnPage_0 : decode cX8_turnPage 0 = .ok (.iload_n 1, 1) := by decide +kernel
theorem dX8_turnPage_1 : decode cX8_turnPage 1 = .ok (.invokestatic 240, 3) := by decide +kernel
theorem dX8_turnPage_4 : decode cX8_turnPage 4 = .ok (.aload_n 0, 1) := by decide +kernel
theorem dX8_turnPage_5 : decode cX8_turnPage 5 = .ok (.getfield 19, 3) := by decide +kernel
theorem dX8_turnPage_8 : decode cX8_turnPage 8 = .ok (.aload_n 0, 1) := by decide +kernel
theorem dX8_turnPage_9 : decode cX8_turnPage 9 = .ok (.getfield 10, 3) := by decide +kernel
theorem dX8_turnPage_12 : decode cX8_turnPage 12 = .ok (.invokevirtual 286, 3) := by decide +kernel
theorem dX8_turnPage_15 : decode cX8_turnPage 15 = .ok (.aload_n 0, 1) := by decide +kernel
theorem dX8_turnPage_16 : decode cX8_turnPage 16 = .ok (.getfield 10, 3) := by decide +kernel
theorem dX8_turnPage_19 : decode cX8_turnPage 19 = .ok (.getfield 137, 3) := by decide +kernel
theorem dX8_turnPage_22 : decode cX8_turnPage 22 = .ok (.iload_n 1, 1) := by decide +kernel
theorem dX8_turnPage_23 : decode cX8_turnPage 23 = .ok (.invokevirtual 330, 3) := by decide +kernel
theorem dX8_turnPage_26 : decode cX8_turnPage 26 = .ok (.ireturn, 1) := by decide +kernel
set_option maxRecDepth 20000 in
theorem ggX8_read_X3_keep : GoodIn wsX8_read wsX3_keep := goodIn_r _ [7, 8, 9, 10, 11, 12, 13, 14, 15, 16, 17, 18, 19, 20, 21, 22, 23, 24, 25, 26, 27, 28, 29, 30, 31, 32, 33, 34, 35, 36, 37, 38, 39, 40, 41, 42, 43, 44, 45, 46, 47, 48, 49, 50, 51, 52, 53, 54, 55, 56, 57, 58, 59, 60, 61, 62, 63, 64, 65, 66, 67, 68, 69, 70, 71, 72, 73, 74, 75, 76, 77, 78, 79, 80, 127, 128, 129, 117, 118, 119, 120, 121, 130, 131, 132, 133, 134, 135, 136, 137, 138, 139, 140, 141, 122, 123, 124, 125, 126] (by decide +kernel) (by decide +kernel)
set_option maxRecDepth 20000 in
theorem gX8_read_X3_keep : GoodIn wsX8_read (wsV RX8 286 RX3 yX3_keep wsX3_keep) := goodIn_app (goodIn_of _ (by decide +kernel)) ggX8_read_X3_keep
set_option maxRecDepth 20000 in
theorem ggX8_read_X4_stopAt : GoodIn wsX8_read wsX4_stopAt := goodIn_r _ [84, 77, 55, 122, 123, 124, 125, 126] (by decide +kernel) (by decide +kernel)
set_option maxRecDepth 20000 in
theorem gX8_read_X4_stopAt : GoodIn wsX8_read (wsV RX8 218 RX4 yX4_stopAt wsX4_stopAt) := goodIn_app (goodIn_of _ (by decide +kernel)) ggX8_read_X4_stopAt
set_option maxRecDepth 20000 in
theorem ggX8_read_X2_directionOf : GoodIn wsX8_read wsX2_directionOf := goodIn_r _ [88, 71, 49, 136, 137, 138, 139, 140, 141] (by decide +kernel) (by decide +kernel)
set_option maxRecDepth 20000 in
theorem gX8_read_X2_directionOf : GoodIn wsX8_read (wsV RX8 197 RX2 yX2_directionOf wsX2_directionOf) := goodIn_app (goodIn_of _ (by decide +kernel)) ggX8_read_X2_directionOf
set_option maxRecDepth 20000 in
theorem ggX8_read_X8_uprightTurn : GoodIn wsX8_read wsX8_uprightTurn := goodIn_r _ [92] (by decide +kernel) (by decide +kernel)
set_option maxRecDepth 20000 in
theorem gX8_read_X8_uprightTurn : GoodIn wsX8_read (va_wsS RX8 243 yX8_uprightTurn wsX8_uprightTurn) := goodIn_app (goodIn_of _ (by decide +kernel)) ggX8_read_X8_uprightTurn
set_option maxRecDepth 20000 in
theorem ggX8_read_X4_turnTo : GoodIn wsX8_read wsX4_turnTo := goodIn_r _ [96, 79, 80, 97, 91, 98, 99, 100, 16, 101, 102, 15, 17, 122, 123, 124, 125, 126] (by decide +kernel) (by decide +kernel)
set_option maxRecDepth 20000 in
theorem gX8_read_X4_turnTo : GoodIn wsX8_read (wsV RX8 330 RX4 yX4_turnTo wsX4_turnTo) := goodIn_app (goodIn_of _ (by decide +kernel)) ggX8_read_X4_turnTo
set_option maxRecDepth 20000 in
theorem ggX8_read_X4_goOn : GoodIn wsX8_read wsX4_goOn := goodIn_r _ [106, 78, 77, 122, 123, 124, 125, 126] (by decide +kernel) (by decide +kernel)
set_option maxRecDepth 20000 in
theorem gX8_read_X4_goOn : GoodIn wsX8_read (wsV RX8 333 RX4 yX4_goOn wsX4_goOn) := goodIn_app (goodIn_of _ (by decide +kernel)) ggX8_read_X4_goOn
theorem dX8_read_0 : decode cX8_read 0 = .ok (.aload_n 0, 1) := by decide +kernel
theorem dX8_read_1 : decode cX8_read 1 = .ok (.getfield 10, 3) := by decide +kernel
theorem dX8_read_4 : decode cX8_read 4 = .ok (.getfield 137, 3) := by decide +kernel
theorem dX8_read_7 : decode cX8_read 7 = .ok (.getfield 141, 3) := by decide +kernel
theorem dX8_read_10 : decode cX8_read 10 = .ok (.ifCond .ne 6, 3) := by decide +kernel
theorem dX8_read_13 : decode cX8_read 13 = .ok (.bipush (-3), 2) := by decide +kernel
theorem dX8_read_15 : decode cX8_read 15 = .ok (.ireturn, 1) := by decide +kernel
theorem dX8_read_16 : decode cX8_read 16 = .ok (.aload_n 0, 1) := by decide +kernel
theorem dX8_read_17 : decode cX8_read 17 = .ok (.getfield 19, 3) := by decide +kernel
theorem dX8_read_20 : decode cX8_read 20 = .ok (.aload_n 0, 1) := by decide +kernel
theorem dX8_read_21 : decode cX8_read 21 = .ok (.getfield 10, 3) := by decide +kernel
theorem dX8_read_24 : decode cX8_read 24 = .ok (.invokevirtual 286, 3) := by decide +kernel
theorem dX8_read_27 : decode cX8_read 27 = .ok (.aload_n 0, 1) := by decide +kernel
theorem dX8_read_28 : decode cX8_read 28 = .ok (.getfield 10, 3) := by decide +kernel
theorem dX8_read_31 : decode cX8_read 31 = .ok (.getfield 137, 3) := by decide +kernel
theorem dX8_read_34 : decode cX8_read 34 = .ok (.aload_n 0, 1) := by decide +kernel
theorem dX8_read_35 : decode cX8_read 35 = .ok (.getfield 10, 3) := by decide +kernel
theorem dX8_read_38 : decode cX8_read 38 = .ok (.getfield 137, 3) := by decide +kernel
theorem dX8_read_41 : decode cX8_read 41 = .ok (.getfield 147, 3) := by decide +kernel
theorem dX8_read_44 : decode cX8_read 44 = .ok (.invokevirtual 218, 3) := by decide +kernel
theorem dX8_read_47 : decode cX8_read 47 = .ok (.istore_n 1, 1) := by decide +kernel
theorem dX8_read_48 : decode cX8_read 48 = .ok (.aload_n 0, 1) := by decide +kernel
theorem dX8_read_49 : decode cX8_read 49 = .ok (.getfield 10, 3) := by decide +kernel
theorem dX8_read_52 : decode cX8_read 52 = .ok (.getfield 97, 3) := by decide +kernel
theorem dX8_read_55 : decode cX8_read 55 = .ok (.iload_n 1, 1) := by decide +kernel
theorem dX8_read_56 : decode cX8_read 56 = .ok (.invokevirtual 197, 3) := by decide +kernel
theorem dX8_read_59 : decode cX8_read 59 = .ok (.istore_n 2, 1) := by decide +kernel
theorem dX8_read_60 : decode cX8_read 60 = .ok (.iload_n 2, 1) := by decide +kernel
theorem dX8_read_61 : decode cX8_read 61 = .ok (.iconst (-1), 1) := by decide +kernel
theorem dX8_read_62 : decode cX8_read 62 = .ok (.if_icmp .eq 18, 3) := by decide +kernel
theorem dX8_read_65 : decode cX8_read 65 = .ok (.aload_n 0, 1) := by decide +kernel
theorem dX8_read_66 : decode cX8_read 66 = .ok (.getfield 10, 3) := by decide +kernel
theorem dX8_read_69 : decode cX8_read 69 = .ok (.getfield 137, 3) := by decide +kernel
theorem dX8_read_72 : decode cX8_read 72 = .ok (.iload_n 2, 1) := by decide +kernel
theorem dX8_read_73 : decode cX8_read 73 = .ok (.invokestatic 243, 3) := by decide +kernel
theorem dX8_read_76 : decode cX8_read 76 = .ok (.invokevirtual 330, 3) := by decide +kernel
theorem dX8_read_79 : decode cX8_read 79 = .ok (.pop, 1) := by decide +kernel
theorem dX8_read_80 : decode cX8_read 80 = .ok (.aload_n 0, 1) := by decide +kernel
theorem dX8_read_81 : decode cX8_read 81 = .ok (.getfield 10, 3) := by decide +kernel
theorem dX8_read_84 : decode cX8_read 84 = .ok (.getfield 137, 3) := by decide +kernel
theorem dX8_read_87 : decode cX8_read 87 = .ok (.invokevirtual 333, 3) := by decide +kernel
theorem dX8_read_90 : decode cX8_read 90 = .ok (.iload_n 1, 1) := by decide +kernel
theorem dX8_read_91 : decode cX8_read 91 = .ok (.ireturn, 1) := by decide +kernel
set_option maxRecDepth 20000 in
theorem ggX8_meanTurn_X4_stopAt : GoodIn wsX8_meanTurn wsX4_stopAt := goodIn_r _ [6, 7, 8, 59, 60, 61, 62, 63] (by decide +kernel) (by decide +kernel)
set_option maxRecDepth 20000 in
theorem gX8_meanTurn_X4_stopAt : GoodIn wsX8_meanTurn (wsV RX8 218 RX4 yX4_stopAt wsX4_stopAt) := goodIn_app (goodIn_of _ (by decide +kernel)) ggX8_meanTurn_X4_stopAt
set_option maxRecDepth 20000 in
theorem ggX8_meanTurn_X2_directionOf : GoodIn wsX8_meanTurn wsX2_directionOf := goodIn_r _ [13, 14, 15, 64, 65, 66, 67, 68, 69] (by decide +kernel) (by decide +kernel)
set_option maxRecDepth 20000 in
theorem gX8_meanTurn_X2_directionOf : GoodIn wsX8_meanTurn (wsV RX8 197 RX2 yX2_directionOf wsX2_directionOf) := goodIn_app (goodIn_of _ (by decide +kernel)) ggX8_meanTurn_X2_directionOf
set_option maxRecDepth 20000 in
theorem ggX8_meanTurn_X8_turning : GoodIn wsX8_meanTurn wsX8_turning := goodIn_r _ [20, 1, 21, 22, 23, 24, 25, 26, 27, 28, 29, 30, 5, 31, 7, 32, 3, 4, 6, 8, 33, 19, 34, 35, 36, 37, 38, 39, 40, 41, 42, 43, 44, 45, 46, 47, 48, 49, 50, 51, 52, 53, 54, 55, 56, 57, 58, 59, 60, 61, 62, 63, 64, 65, 66, 67, 68, 69] (by decide +kernel) (by decide +kernel)
set_option maxRecDepth 20000 in
theorem gX8_meanTurn_X8_turning : GoodIn wsX8_meanTurn (wsV RX8 336 RX8 yX8_turning wsX8_turning) := goodIn_app (goodIn_of _ (by decide +kernel)) ggX8_meanTurn_X8_turning
theorem dX8_meanTurn_0 : decode cX8_meanTurn 0 = .ok (.iconst 0, 1) := by decide +kernel
theorem dX8_meanTurn_1 : decode cX8_meanTurn 1 = .ok (.istore_n 1, 1) := by decide +kernel
theorem dX8_meanTurn_2 : decode cX8_meanTurn 2 = .ok (.iconst 0, 1) := by decide +kernel
theorem dX8_meanTurn_3 : decode cX8_meanTurn 3 = .ok (.istore_n 2, 1) := by decide +kernel
theorem dX8_meanTurn_4 : decode cX8_meanTurn 4 = .ok (.iload_n 2, 1) := by decide +kernel
theorem dX8_meanTurn_5 : decode cX8_meanTurn 5 = .ok (.aload_n 0, 1) := by decide +kernel
theorem dX8_meanTurn_6 : decode cX8_meanTurn 6 = .ok (.getfield 10, 3) := by decide +kernel
theorem dX8_meanTurn_9 : decode cX8_meanTurn 9 = .ok (.getfield 137, 3) := by decide +kernel
theorem dX8_meanTurn_12 : decode cX8_meanTurn 12 = .ok (.getfield 141, 3) := by decide +kernel
theorem dX8_meanTurn_15 : decode cX8_meanTurn 15 = .ok (.if_icmp .ge 37, 3) := by decide +kernel
theorem dX8_meanTurn_18 : decode cX8_meanTurn 18 = .ok (.aload_n 0, 1) := by decide +kernel
theorem dX8_meanTurn_19 : decode cX8_meanTurn 19 = .ok (.getfield 10, 3) := by decide +kernel
theorem dX8_meanTurn_22 : decode cX8_meanTurn 22 = .ok (.getfield 97, 3) := by decide +kernel
theorem dX8_meanTurn_25 : decode cX8_meanTurn 25 = .ok (.aload_n 0, 1) := by decide +kernel
theorem dX8_meanTurn_26 : decode cX8_meanTurn 26 = .ok (.getfield 10, 3) := by decide +kernel
theorem dX8_meanTurn_29 : decode cX8_meanTurn 29 = .ok (.getfield 137, 3) := by decide +kernel
theorem dX8_meanTurn_32 : decode cX8_meanTurn 32 = .ok (.iload_n 2, 1) := by decide +kernel
theorem dX8_meanTurn_33 : decode cX8_meanTurn 33 = .ok (.invokevirtual 218, 3) := by decide +kernel
theorem dX8_meanTurn_36 : decode cX8_meanTurn 36 = .ok (.invokevirtual 197, 3) := by decide +kernel
theorem dX8_meanTurn_39 : decode cX8_meanTurn 39 = .ok (.iconst (-1), 1) := by decide +kernel
theorem dX8_meanTurn_40 : decode cX8_meanTurn 40 = .ok (.if_icmp .eq 6, 3) := by decide +kernel
theorem dX8_meanTurn_43 : decode cX8_meanTurn 43 = .ok (.iinc 1 1, 3) := by decide +kernel
theorem dX8_meanTurn_46 : decode cX8_meanTurn 46 = .ok (.iinc 2 1, 3) := by decide +kernel
theorem dX8_meanTurn_49 : decode cX8_meanTurn 49 = .ok (.goto (-45), 3) := by decide +kernel
theorem dX8_meanTurn_52 : decode cX8_meanTurn 52 = .ok (.iload_n 1, 1) := by decide +kernel
theorem dX8_meanTurn_53 : decode cX8_meanTurn 53 = .ok (.ifCond .ne 7, 3) := by decide +kernel
theorem dX8_meanTurn_56 : decode cX8_meanTurn 56 = .ok (.dconst 0, 1) := by decide +kernel
theorem dX8_meanTurn_57 : decode cX8_meanTurn 57 = .ok (.goto 11, 3) := by decide +kernel
theorem dX8_meanTurn_60 : decode cX8_meanTurn 60 = .ok (.aload_n 0, 1) := by decide +kernel
theorem dX8_meanTurn_61 : decode cX8_meanTurn 61 = .ok (.invokevirtual 336, 3) := by decide +kernel
theorem dX8_meanTurn_64 : decode cX8_meanTurn 64 = .ok (.i2d, 1) := by decide +kernel
theorem dX8_meanTurn_65 : decode cX8_meanTurn 65 = .ok (.iload_n 1, 1) := by decide +kernel
theorem dX8_meanTurn_66 : decode cX8_meanTurn 66 = .ok (.i2d, 1) := by decide +kernel
theorem dX8_meanTurn_67 : decode cX8_meanTurn 67 = .ok (.ddiv, 1) := by decide +kernel
theorem dX8_meanTurn_68 : decode cX8_meanTurn 68 = .ok (.dreturn, 1) := by decide +kernel
set_option maxRecDepth 20000 in
theorem ggX8_cover_X1_landCells : GoodIn wsX8_cover wsX1_landCells := goodIn_r _ [6, 7, 35, 36, 37, 38, 39, 40] (by decide +kernel) (by decide +kernel)
set_option maxRecDepth 20000 in
theorem gX8_cover_X1_landCells : GoodIn wsX8_cover (wsV RX8 118 RX1 yX1_landCells wsX1_landCells) := goodIn_app (goodIn_of _ (by decide +kernel)) ggX8_cover_X1_landCells
set_option maxRecDepth 20000 in
theorem ggX8_cover_X1_cells : GoodIn wsX8_cover wsX1_cells := goodIn_r _ [11, 12, 13, 35, 36, 37, 38, 39, 40] (by decide +kernel) (by decide +kernel)
set_option maxRecDepth 20000 in
theorem gX8_cover_X1_cells : GoodIn wsX8_cover (wsV RX8 237 RX1 yX1_cells wsX1_cells) := goodIn_app (goodIn_of _ (by decide +kernel)) ggX8_cover_X1_cells
set_option maxRecDepth 20000 in
theorem ggX8_cover_X6_namesIn : GoodIn wsX8_cover wsX6_namesIn := goodIn_r _ [18, 19, 30, 31, 32, 33, 34] (by decide +kernel) (by decide +kernel)
set_option maxRecDepth 20000 in
theorem gX8_cover_X6_namesIn : GoodIn wsX8_cover (wsV RX8 180 RX6 yX6_namesIn wsX6_namesIn) := goodIn_app (goodIn_of _ (by decide +kernel)) ggX8_cover_X6_namesIn
theorem dX8_cover_0 : decode cX8_cover 0 = .ok (.aload_n 0, 1) := by decide +kernel
theorem dX8_cover_1 : decode cX8_cover 1 = .ok (.getfield 10, 3) := by decide +kernel
theorem dX8_cover_4 : decode cX8_cover 4 = .ok (.getfield 106, 3) := by decide +kernel
theorem dX8_cover_7 : decode cX8_cover 7 = .ok (.invokevirtual 118, 3) := by decide +kernel
theorem dX8_cover_10 : decode cX8_cover 10 = .ok (.istore_n 1, 1) := by decide +kernel
theorem dX8_cover_11 : decode cX8_cover 11 = .ok (.iconst 0, 1) := by decide +kernel
theorem dX8_cover_12 : decode cX8_cover 12 = .ok (.istore_n 2, 1) := by decide +kernel
theorem dX8_cover_13 : decode cX8_cover 13 = .ok (.iconst 0, 1) := by decide +kernel
theorem dX8_cover_14 : decode cX8_cover 14 = .ok (.istore_n 3, 1) := by decide +kernel
theorem dX8_cover_15 : decode cX8_cover 15 = .ok (.iload_n 3, 1) := by decide +kernel
theorem dX8_cover_16 : decode cX8_cover 16 = .ok (.aload_n 0, 1) := by decide +kernel
theorem dX8_cover_17 : decode cX8_cover 17 = .ok (.getfield 10, 3) := by decide +kernel
theorem dX8_cover_20 : decode cX8_cover 20 = .ok (.getfield 106, 3) := by decide +kernel
theorem dX8_cover_23 : decode cX8_cover 23 = .ok (.invokevirtual 237, 3) := by decide +kernel
theorem dX8_cover_26 : decode cX8_cover 26 = .ok (.if_icmp .ge 23, 3) := by decide +kernel
theorem dX8_cover_29 : decode cX8_cover 29 = .ok (.aload_n 0, 1) := by decide +kernel
theorem dX8_cover_30 : decode cX8_cover 30 = .ok (.getfield 10, 3) := by decide +kernel
theorem dX8_cover_33 : decode cX8_cover 33 = .ok (.iload_n 3, 1) := by decide +kernel
theorem dX8_cover_34 : decode cX8_cover 34 = .ok (.invokevirtual 180, 3) := by decide +kernel
theorem dX8_cover_37 : decode cX8_cover 37 = .ok (.ifCond .eq 6, 3) := by decide +kernel
theorem dX8_cover_40 : decode cX8_cover 40 = .ok (.iinc 2 1, 3) := by decide +kernel
theorem dX8_cover_43 : decode cX8_cover 43 = .ok (.iinc 3 1, 3) := by decide +kernel
theorem dX8_cover_46 : decode cX8_cover 46 = .ok (.goto (-31), 3) := by decide +kernel
theorem dX8_cover_49 : decode cX8_cover 49 = .ok (.iload_n 1, 1) := by decide +kernel
theorem dX8_cover_50 : decode cX8_cover 50 = .ok (.ifCond .ne 7, 3) := by decide +kernel
theorem dX8_cover_53 : decode cX8_cover 53 = .ok (.fconst 0, 1) := by decide +kernel
theorem dX8_cover_54 : decode cX8_cover 54 = .ok (.goto 8, 3) := by decide +kernel
theorem dX8_cover_57 : decode cX8_cover 57 = .ok (.iload_n 2, 1) := by decide +kernel
theorem dX8_cover_58 : decode cX8_cover 58 = .ok (.i2f, 1) := by decide +kernel
theorem dX8_cover_59 : decode cX8_cover 59 = .ok (.iload_n 1, 1) := by decide +kernel
theorem dX8_cover_60 : decode cX8_cover 60 = .ok (.i2f, 1) := by decide +kernel
theorem dX8_cover_61 : decode cX8_cover 61 = .ok (.fdiv, 1) := by decide +kernel
theorem dX8_cover_62 : decode cX8_cover 62 = .ok (.freturn, 1) := by decide +kernel
set_option maxRecDepth 20000 in
theorem ggX8_writeRow_X8_signOf : GoodIn wsX8_writeRow wsX8_signOf := goodIn_r _ [10, 3, 11, 12, 13, 14, 15, 16, 17, 18, 19, 20, 21, 22, 23, 24, 25, 26, 27, 28, 29, 30, 31, 32, 33, 34, 35, 36, 37, 38, 39, 40, 41, 42, 43, 44, 45, 46, 47, 48, 49, 50, 51, 52, 53, 54, 55, 62, 63, 64, 65, 66, 67, 56, 57, 58, 59, 60, 61] (by decide +kernel) (by decide +kernel)
set_option maxRecDepth 20000 in
theorem gX8_writeRow_X8_signOf : GoodIn wsX8_writeRow (wsV RX8 341 RX8 yX8_signOf wsX8_signOf) := goodIn_app (goodIn_of _ (by decide +kernel)) ggX8_writeRow_X8_signOf
theorem dX8_writeRow_0 : decode cX8_writeRow 0 = .ok (.iload_n 1, 1) := by decide +kernel
theorem dX8_writeRow_1 : decode cX8_writeRow 1 = .ok (.ifCond .lt 17, 3) := by decide +kernel
theorem dX8_writeRow_4 : decode cX8_writeRow 4 = .ok (.iload_n 1, 1) := by decide +kernel
theorem dX8_writeRow_5 : decode cX8_writeRow 5 = .ok (.aload_n 0, 1) := by decide +kernel
theorem dX8_writeRow_6 : decode cX8_writeRow 6 = .ok (.getfield 10, 3) := by decide +kernel
theorem dX8_writeRow_9 : decode cX8_writeRow 9 = .ok (.getfield 106, 3) := by decide +kernel
theorem dX8_writeRow_12 : decode cX8_writeRow 12 = .ok (.getfield 110, 3) := by decide +kernel
theorem dX8_writeRow_15 : decode cX8_writeRow 15 = .ok (.if_icmp .lt 14, 3) := by decide +kernel
theorem dX8_writeRow_18 : decode cX8_writeRow 18 = .ok (.new 322, 3) := by decide +kernel
theorem dX8_writeRow_21 : decode cX8_writeRow 21 = .ok (.dup, 1) := by decide +kernel
theorem dX8_writeRow_22 : decode cX8_writeRow 22 = .ok (.ldc_w 339, 3) := by decide +kernel
theorem dX8_writeRow_25 : decode cX8_writeRow 25 = .ok (.invokespecial 326, 3) := by decide +kernel
theorem dX8_writeRow_28 : decode cX8_writeRow 28 = .ok (.athrow, 1) := by decide +kernel
theorem dX8_writeRow_29 : decode cX8_writeRow 29 = .ok (.aload_n 0, 1) := by decide +kernel
theorem dX8_writeRow_30 : decode cX8_writeRow 30 = .ok (.getfield 10, 3) := by decide +kernel
theorem dX8_writeRow_33 : decode cX8_writeRow 33 = .ok (.getfield 106, 3) := by decide +kernel
theorem dX8_writeRow_36 : decode cX8_writeRow 36 = .ok (.getfield 115, 3) := by decide +kernel
theorem dX8_writeRow_39 : decode cX8_writeRow 39 = .ok (.istore_n 2, 1) := by decide +kernel
theorem dX8_writeRow_40 : decode cX8_writeRow 40 = .ok (.iconst 0, 1) := by decide +kernel
theorem dX8_writeRow_41 : decode cX8_writeRow 41 = .ok (.istore_n 3, 1) := by decide +kernel
theorem dX8_writeRow_42 : decode cX8_writeRow 42 = .ok (.iload_n 3, 1) := by decide +kernel
theorem dX8_writeRow_43 : decode cX8_writeRow 43 = .ok (.iload_n 2, 1) := by decide +kernel
theorem dX8_writeRow_44 : decode cX8_writeRow 44 = .ok (.if_icmp .ge 30, 3) := by decide +kernel
theorem dX8_writeRow_47 : decode cX8_writeRow 47 = .ok (.iload_n 3, 1) := by decide +kernel
theorem dX8_writeRow_48 : decode cX8_writeRow 48 = .ok (.bipush 12, 2) := by decide +kernel
theorem dX8_writeRow_50 : decode cX8_writeRow 50 = .ok (.if_icmp .ge 24, 3) := by decide +kernel
theorem dX8_writeRow_53 : decode cX8_writeRow 53 = .ok (.aload_n 0, 1) := by decide +kernel
theorem dX8_writeRow_54 : decode cX8_writeRow 54 = .ok (.getfield 44, 3) := by decide +kernel
theorem dX8_writeRow_57 : decode cX8_writeRow 57 = .ok (.iload_n 3, 1) := by decide +kernel
theorem dX8_writeRow_58 : decode cX8_writeRow 58 = .ok (.aload_n 0, 1) := by decide +kernel
theorem dX8_writeRow_59 : decode cX8_writeRow 59 = .ok (.iload_n 1, 1) := by decide +kernel
theorem dX8_writeRow_60 : decode cX8_writeRow 60 = .ok (.iload_n 2, 1) := by decide +kernel
theorem dX8_writeRow_61 : decode cX8_writeRow 61 = .ok (.imul, 1) := by decide +kernel
theorem dX8_writeRow_62 : decode cX8_writeRow 62 = .ok (.iload_n 3, 1) := by decide +kernel
theorem dX8_writeRow_63 : decode cX8_writeRow 63 = .ok (.iadd, 1) := by decide +kernel
theorem dX8_writeRow_64 : decode cX8_writeRow 64 = .ok (.invokevirtual 341, 3) := by decide +kernel
theorem dX8_writeRow_67 : decode cX8_writeRow 67 = .ok (.iastore, 1) := by decide +kernel
theorem dX8_writeRow_68 : decode cX8_writeRow 68 = .ok (.iinc 3 1, 3) := by decide +kernel
theorem dX8_writeRow_71 : decode cX8_writeRow 71 = .ok (.goto (-29), 3) := by decide +kernel
theorem dX8_writeRow_74 : decode cX8_writeRow 74 = .ok (.aload_n 0, 1) := by decide +kernel
theorem dX8_writeRow_75 : decode cX8_writeRow 75 = .ok (.iload_n 2, 1) := by decide +kernel
theorem dX8_writeRow_76 : decode cX8_writeRow 76 = .ok (.putfield 344, 3) := by decide +kernel
theorem dX8_writeRow_79 : decode cX8_writeRow 79 = .ok (.aload_n 0, 1) := by decide +kernel
theorem dX8_writeRow_80 : decode cX8_writeRow 80 = .ok (.getfield 344, 3) := by decide +kernel
theorem dX8_writeRow_83 : decode cX8_writeRow 83 = .ok (.ireturn, 1) := by decide +kernel
theorem dX8_outputByte_0 : decode cX8_outputByte 0 = .ok (.iload_n 1, 1) := by decide +kernel
theorem dX8_outputByte_1 : decode cX8_outputByte 1 = .ok (.ifCond .lt 26, 3) := by decide +kernel
theorem dX8_outputByte_4 : decode cX8_outputByte 4 = .ok (.iload_n 1, 1) := by decide +kernel
theorem dX8_outputByte_5 : decode cX8_outputByte 5 = .ok (.aload_n 0, 1) := by decide +kernel
theorem dX8_outputByte_6 : decode cX8_outputByte 6 = .ok (.getfield 344, 3) := by decide +kernel
theorem dX8_outputByte_9 : decode cX8_outputByte 9 = .ok (.if_icmp .ge 18, 3) := by decide +kernel
theorem dX8_outputByte_12 : decode cX8_outputByte 12 = .ok (.iload_n 1, 1) := by decide +kernel
theorem dX8_outputByte_13 : decode cX8_outputByte 13 = .ok (.bipush 12, 2) := by decide +kernel
theorem dX8_outputByte_15 : decode cX8_outputByte 15 = .ok (.if_icmp .ge 12, 3) := by decide +kernel
theorem dX8_outputByte_18 : decode cX8_outputByte 18 = .ok (.aload_n 0, 1) := by decide +kernel
theorem dX8_outputByte_19 : decode cX8_outputByte 19 = .ok (.getfield 44, 3) := by decide +kernel
theorem dX8_outputByte_22 : decode cX8_outputByte 22 = .ok (.iload_n 1, 1) := by decide +kernel
theorem dX8_outputByte_23 : decode cX8_outputByte 23 = .ok (.iaload, 1) := by decide +kernel
theorem dX8_outputByte_24 : decode cX8_outputByte 24 = .ok (.goto 4, 3) := by decide +kernel
theorem dX8_outputByte_27 : decode cX8_outputByte 27 = .ok (.iconst (-1), 1) := by decide +kernel
theorem dX8_outputByte_28 : decode cX8_outputByte 28 = .ok (.ireturn, 1) := by decide +kernel
set_option maxRecDepth 20000 in
theorem ggX8_undo_X3_giveBack : GoodIn wsX8_undo wsX3_giveBack := goodIn_r _ [7, 8, 9, 10, 11, 12, 13, 14, 15, 16, 17, 18, 19, 20, 21, 22, 23, 24, 25, 26, 27, 28, 29, 30, 31, 32, 33, 34, 35, 36, 37, 38, 39, 40, 41, 42, 43, 44, 45, 46, 47, 48, 49, 50, 51, 52, 63, 64, 65, 66, 67, 68, 69, 70, 71, 72, 73, 74, 75, 76, 77, 78, 79, 80, 81, 82, 83, 84, 85, 86, 87] (by decide +kernel) (by decide +kernel)
set_option maxRecDepth 20000 in
theorem gX8_undo_X3_giveBack : GoodIn wsX8_undo (wsV RX8 347 RX3 yX3_giveBack wsX3_giveBack) := goodIn_app (goodIn_of _ (by decide +kernel)) ggX8_undo_X3_giveBack
theorem dX8_undo_0 : decode cX8_undo 0 = .ok (.aload_n 0, 1) := by decide +kernel
theorem dX8_undo_1 : decode cX8_undo 1 = .ok (.getfield 19, 3) := by decide +kernel
theorem dX8_undo_4 : decode cX8_undo 4 = .ok (.aload_n 0, 1) := by decide +kernel
theorem dX8_undo_5 : decode cX8_undo 5 = .ok (.getfield 10, 3) := by decide +kernel
theorem dX8_undo_8 : decode cX8_undo 8 = .ok (.invokevirtual 347, 3) := by decide +kernel
theorem dX8_undo_11 : decode cX8_undo 11 = .ok (.ifCond .eq 13, 3) := by decide +kernel
theorem dX8_undo_14 : decode cX8_undo 14 = .ok (.aload_n 0, 1) := by decide +kernel
theorem dX8_undo_15 : decode cX8_undo 15 = .ok (.getfield 19, 3) := by decide +kernel
theorem dX8_undo_18 : decode cX8_undo 18 = .ok (.getfield 153, 3) := by decide +kernel
theorem dX8_undo_21 : decode cX8_undo 21 = .ok (.goto 4, 3) := by decide +kernel
theorem dX8_undo_24 : decode cX8_undo 24 = .ok (.iconst (-1), 1) := by decide +kernel
theorem dX8_undo_25 : decode cX8_undo 25 = .ok (.ireturn, 1) := by decide +kernel
set_option maxRecDepth 20000 in
theorem ggX8_saveSnapshot_X8_needSlot : GoodIn wsX8_saveSnapshot wsX8_needSlot := goodIn_ca (goodIn_r _ [9, 10, 11] (by decide +kernel) (by decide +kernel)) (goodIn_sub (fun _ h => List.mem_cons_of_mem _ (List.mem_append_right _ h)) (by decide +kernel))
set_option maxRecDepth 20000 in
theorem gX8_saveSnapshot_X8_needSlot : GoodIn wsX8_saveSnapshot (va_wsS RX8 351 yX8_needSlot wsX8_needSlot) := goodIn_app (goodIn_of _ (by decide +kernel)) ggX8_saveSnapshot_X8_needSlot
set_option maxRecDepth 20000 in
theorem ggX8_saveSnapshot_X6_init : GoodIn wsX8_saveSnapshot wsX6_init := goodIn_r _ [13, 14, 15, 16, 17, 18, 19, 20, 21, 22, 23, 24, 25, 26, 27, 28, 29, 30, 31, 32, 33, 34, 35, 36, 37, 38, 39, 40, 41, 42, 43, 44, 45, 46, 47, 48, 49, 96, 97, 98, 99, 100, 101, 85, 86, 87, 88, 89, 90, 91, 92, 93, 94, 95, 102, 103, 104, 105, 106] (by decide +kernel) (by decide +kernel)
set_option maxRecDepth 20000 in
theorem gX8_saveSnapshot_X6_init_n9 : GoodIn wsX8_saveSnapshot (wsX6_init) := ggX8_saveSnapshot_X6_init
set_option maxRecDepth 20000 in
theorem ggX8_saveSnapshot_X6_copyFrom : GoodIn wsX8_saveSnapshot wsX6_copyFrom := goodIn_r _ [53, 20, 24, 28, 30, 31, 54, 55, 56, 19, 57, 58, 59, 60, 36, 37, 38, 61, 62, 63, 23, 64, 65, 66, 42, 43, 44, 45, 67, 68, 69, 27, 70, 71, 72, 73, 74, 49, 85, 86, 87, 88, 89, 96, 97, 98, 99, 100, 101, 90, 91, 92, 93, 94, 95, 102, 103, 104, 105, 106] (by decide +kernel) (by decide +kernel)
set_option maxRecDepth 20000 in
theorem gX8_saveSnapshot_X6_copyFrom : GoodIn wsX8_saveSnapshot (wsV RX8 90 RX6 yX6_copyFrom wsX6_copyFrom) := goodIn_app (goodIn_of _ (by decide +kernel)) ggX8_saveSnapshot_X6_copyFrom
theorem dX8_saveSnapshot_0 : decode cX8_saveSnapshot 0 = .ok (.iload_n 1, 1) := by decide +kernel
theorem dX8_saveSnapshot_1 : decode cX8_saveSnapshot 1 = .ok (.invokestatic 351, 3) := by decide +kernel
theorem dX8_saveSnapshot_4 : decode cX8_saveSnapshot 4 = .ok (.aload_n 0, 1) := by decide +kernel
theorem dX8_saveSnapshot_5 : decode cX8_saveSnapshot 5 = .ok (.getfield 48, 3) := by decide +kernel
theorem dX8_saveSnapshot_8 : decode cX8_saveSnapshot 8 = .ok (.iload_n 1, 1) := by decide +kernel
theorem dX8_saveSnapshot_9 : decode cX8_saveSnapshot 9 = .ok (.aaload, 1) := by decide +kernel
theorem dX8_saveSnapshot_10 : decode cX8_saveSnapshot 10 = .ok (.astore_n 2, 1) := by decide +kernel
theorem dX8_saveSnapshot_11 : decode cX8_saveSnapshot 11 = .ok (.aload_n 2, 1) := by decide +kernel
theorem dX8_saveSnapshot_12 : decode cX8_saveSnapshot 12 = .ok (.ifnonnull 18, 3) := by decide +kernel
theorem dX8_saveSnapshot_15 : decode cX8_saveSnapshot 15 = .ok (.new 7, 3) := by decide +kernel
theorem dX8_saveSnapshot_18 : decode cX8_saveSnapshot 18 = .ok (.dup, 1) := by decide +kernel
theorem dX8_saveSnapshot_19 : decode cX8_saveSnapshot 19 = .ok (.invokespecial 9, 3) := by decide +kernel
theorem dX8_saveSnapshot_22 : decode cX8_saveSnapshot 22 = .ok (.astore_n 2, 1) := by decide +kernel
theorem dX8_saveSnapshot_23 : decode cX8_saveSnapshot 23 = .ok (.aload_n 0, 1) := by decide +kernel
theorem dX8_saveSnapshot_24 : decode cX8_saveSnapshot 24 = .ok (.getfield 48, 3) := by decide +kernel
theorem dX8_saveSnapshot_27 : decode cX8_saveSnapshot 27 = .ok (.iload_n 1, 1) := by decide +kernel
theorem dX8_saveSnapshot_28 : decode cX8_saveSnapshot 28 = .ok (.aload_n 2, 1) := by decide +kernel
theorem dX8_saveSnapshot_29 : decode cX8_saveSnapshot 29 = .ok (.aastore, 1) := by decide +kernel
theorem dX8_saveSnapshot_30 : decode cX8_saveSnapshot 30 = .ok (.aload_n 2, 1) := by decide +kernel
theorem dX8_saveSnapshot_31 : decode cX8_saveSnapshot 31 = .ok (.aload_n 0, 1) := by decide +kernel
theorem dX8_saveSnapshot_32 : decode cX8_saveSnapshot 32 = .ok (.getfield 10, 3) := by decide +kernel
theorem dX8_saveSnapshot_35 : decode cX8_saveSnapshot 35 = .ok (.invokevirtual 90, 3) := by decide +kernel
theorem dX8_saveSnapshot_38 : decode cX8_saveSnapshot 38 = .ok (.aload_n 0, 1) := by decide +kernel
theorem dX8_saveSnapshot_39 : decode cX8_saveSnapshot 39 = .ok (.getfield 10, 3) := by decide +kernel
theorem dX8_saveSnapshot_42 : decode cX8_saveSnapshot 42 = .ok (.getfield 97, 3) := by decide +kernel
theorem dX8_saveSnapshot_45 : decode cX8_saveSnapshot 45 = .ok (.getfield 101, 3) := by decide +kernel
theorem dX8_saveSnapshot_48 : decode cX8_saveSnapshot 48 = .ok (.ireturn, 1) := by decide +kernel
set_option maxRecDepth 20000 in
theorem ggX8_restoreSnapshot_X8_needSlot : GoodIn wsX8_restoreSnapshot wsX8_needSlot := goodIn_ca (goodIn_r _ [7, 8, 9] (by decide +kernel) (by decide +kernel)) (goodIn_sub (fun _ h => List.mem_cons_of_mem _ (List.mem_append_right _ h)) (by decide +kernel))
set_option maxRecDepth 20000 in
theorem gX8_restoreSnapshot_X8_needSlot : GoodIn wsX8_restoreSnapshot (va_wsS RX8 351 yX8_needSlot wsX8_needSlot) := goodIn_app (goodIn_of _ (by decide +kernel)) ggX8_restoreSnapshot_X8_needSlot
set_option maxRecDepth 20000 in
theorem ggX8_restoreSnapshot_X6_copyFrom : GoodIn wsX8_restoreSnapshot wsX6_copyFrom := goodIn_r _ [14, 15, 16, 17, 18, 19, 20, 21, 22, 23, 24, 25, 26, 27, 28, 29, 30, 31, 32, 33, 34, 35, 36, 37, 38, 39, 40, 41, 42, 43, 44, 45, 46, 47, 48, 49, 50, 51, 68, 69, 70, 71, 72, 79, 80, 81, 82, 83, 84, 73, 74, 75, 76, 77, 78, 85, 86, 87, 88, 89] (by decide +kernel) (by decide +kernel)
set_option maxRecDepth 20000 in
theorem gX8_restoreSnapshot_X6_copyFrom : GoodIn wsX8_restoreSnapshot (wsV RX8 90 RX6 yX6_copyFrom wsX6_copyFrom) := goodIn_app (goodIn_of _ (by decide +kernel)) ggX8_restoreSnapshot_X6_copyFrom
set_option maxRecDepth 20000 in
theorem ggX8_restoreSnapshot_X3_forget : GoodIn wsX8_restoreSnapshot wsX3_forget := goodIn_r _ [56, 57, 90, 91, 92] (by decide +kernel) (by decide +kernel)
set_option maxRecDepth 20000 in
theorem gX8_restoreSnapshot_X3_forget : GoodIn wsX8_restoreSnapshot (wsV RX8 94 RX3 yX3_forget wsX3_forget) := goodIn_app (goodIn_of _ (by decide +kernel)) ggX8_restoreSnapshot_X3_forget
theorem dX8_restoreSnapshot_0 : decode cX8_restoreSnapshot 0 = .ok (.iload_n 1, 1) := by decide +kernel
theorem dX8_restoreSnapshot_1 : decode cX8_restoreSnapshot 1 = .ok (.invokestatic 351, 3) := by decide +kernel
theorem dX8_restoreSnapshot_4 : decode cX8_restoreSnapshot 4 = .ok (.aload_n 0, 1) := by decide +kernel
theorem dX8_restoreSnapshot_5 : decode cX8_restoreSnapshot 5 = .ok (.getfield 48, 3) := by decide +kernel
theorem dX8_restoreSnapshot_8 : decode cX8_restoreSnapshot 8 = .ok (.iload_n 1, 1) := by decide +kernel
theorem dX8_restoreSnapshot_9 : decode cX8_restoreSnapshot 9 = .ok (.aaload, 1) := by decide +kernel
theorem dX8_restoreSnapshot_10 : decode cX8_restoreSnapshot 10 = .ok (.astore_n 2, 1) := by decide +kernel
theorem dX8_restoreSnapshot_11 : decode cX8_restoreSnapshot 11 = .ok (.aload_n 2, 1) := by decide +kernel
theorem dX8_restoreSnapshot_12 : decode cX8_restoreSnapshot 12 = .ok (.ifnonnull 5, 3) := by decide +kernel
theorem dX8_restoreSnapshot_15 : decode cX8_restoreSnapshot 15 = .ok (.iconst (-1), 1) := by decide +kernel
theorem dX8_restoreSnapshot_16 : decode cX8_restoreSnapshot 16 = .ok (.ireturn, 1) := by decide +kernel
theorem dX8_restoreSnapshot_17 : decode cX8_restoreSnapshot 17 = .ok (.aload_n 0, 1) := by decide +kernel
theorem dX8_restoreSnapshot_18 : decode cX8_restoreSnapshot 18 = .ok (.getfield 10, 3) := by decide +kernel
theorem dX8_restoreSnapshot_21 : decode cX8_restoreSnapshot 21 = .ok (.aload_n 2, 1) := by decide +kernel
theorem dX8_restoreSnapshot_22 : decode cX8_restoreSnapshot 22 = .ok (.invokevirtual 90, 3) := by decide +kernel
theorem dX8_restoreSnapshot_25 : decode cX8_restoreSnapshot 25 = .ok (.aload_n 0, 1) := by decide +kernel
theorem dX8_restoreSnapshot_26 : decode cX8_restoreSnapshot 26 = .ok (.getfield 19, 3) := by decide +kernel
theorem dX8_restoreSnapshot_29 : decode cX8_restoreSnapshot 29 = .ok (.invokevirtual 94, 3) := by decide +kernel
theorem dX8_restoreSnapshot_32 : decode cX8_restoreSnapshot 32 = .ok (.aload_n 0, 1) := by decide +kernel
theorem dX8_restoreSnapshot_33 : decode cX8_restoreSnapshot 33 = .ok (.getfield 10, 3) := by decide +kernel
theorem dX8_restoreSnapshot_36 : decode cX8_restoreSnapshot 36 = .ok (.getfield 97, 3) := by decide +kernel
theorem dX8_restoreSnapshot_39 : decode cX8_restoreSnapshot 39 = .ok (.getfield 101, 3) := by decide +kernel
theorem dX8_restoreSnapshot_42 : decode cX8_restoreSnapshot 42 = .ok (.ireturn, 1) := by decide +kernel
set_option maxRecDepth 20000 in
theorem ggX8_needCell_X1_cells : GoodIn wsX8_needCell wsX1_cells := goodIn_r _ [8, 9, 10, 26, 27, 28, 29, 30, 31] (by decide +kernel) (by decide +kernel)
set_option maxRecDepth 20000 in
theorem gX8_needCell_X1_cells : GoodIn wsX8_needCell (wsV RX8 237 RX1 yX1_cells wsX1_cells) := goodIn_app (goodIn_of _ (by decide +kernel)) ggX8_needCell_X1_cells
theorem dX8_needCell_0 : decode cX8_needCell 0 = .ok (.iload_n 1, 1) := by decide +kernel
theorem dX8_needCell_1 : decode cX8_needCell 1 = .ok (.ifCond .lt 17, 3) := by decide +kernel
theorem dX8_needCell_4 : decode cX8_needCell 4 = .ok (.iload_n 1, 1) := by decide +kernel
theorem dX8_needCell_5 : decode cX8_needCell 5 = .ok (.aload_n 0, 1) := by decide +kernel
theorem dX8_needCell_6 : decode cX8_needCell 6 = .ok (.getfield 10, 3) := by decide +kernel
theorem dX8_needCell_9 : decode cX8_needCell 9 = .ok (.getfield 106, 3) := by decide +kernel
theorem dX8_needCell_12 : decode cX8_needCell 12 = .ok (.invokevirtual 237, 3) := by decide +kernel
theorem dX8_needCell_15 : decode cX8_needCell 15 = .ok (.if_icmp .lt 14, 3) := by decide +kernel
theorem dX8_needCell_18 : decode cX8_needCell 18 = .ok (.new 322, 3) := by decide +kernel
theorem dX8_needCell_21 : decode cX8_needCell 21 = .ok (.dup, 1) := by decide +kernel
theorem dX8_needCell_22 : decode cX8_needCell 22 = .ok (.ldc_w 354, 3) := by decide +kernel
theorem dX8_needCell_25 : decode cX8_needCell 25 = .ok (.invokespecial 326, 3) := by decide +kernel
theorem dX8_needCell_28 : decode cX8_needCell 28 = .ok (.athrow, 1) := by decide +kernel
theorem dX8_needCell_29 : decode cX8_needCell 29 = .ok (.return_, 1) := by decide +kernel
theorem dX8_needHarbour_0 : decode cX8_needHarbour 0 = .ok (.iload_n 1, 1) := by decide +kernel
theorem dX8_needHarbour_1 : decode cX8_needHarbour 1 = .ok (.ifCond .lt 17, 3) := by decide +kernel
theorem dX8_needHarbour_4 : decode cX8_needHarbour 4 = .ok (.iload_n 1, 1) := by decide +kernel
theorem dX8_needHarbour_5 : decode cX8_needHarbour 5 = .ok (.aload_n 0, 1) := by decide +kernel
theorem dX8_needHarbour_6 : decode cX8_needHarbour 6 = .ok (.getfield 10, 3) := by decide +kernel
theorem dX8_needHarbour_9 : decode cX8_needHarbour 9 = .ok (.getfield 97, 3) := by decide +kernel
theorem dX8_needHarbour_12 : decode cX8_needHarbour 12 = .ok (.getfield 101, 3) := by decide +kernel
theorem dX8_needHarbour_15 : decode cX8_needHarbour 15 = .ok (.if_icmp .lt 14, 3) := by decide +kernel
theorem dX8_needHarbour_18 : decode cX8_needHarbour 18 = .ok (.new 322, 3) := by decide +kernel
theorem dX8_needHarbour_21 : decode cX8_needHarbour 21 = .ok (.dup, 1) := by decide +kernel
theorem dX8_needHarbour_22 : decode cX8_needHarbour 22 = .ok (.ldc_w 356, 3) := by decide +kernel
theorem dX8_needHarbour_25 : decode cX8_needHarbour 25 = .ok (.invokespecial 326, 3) := by decide +kernel
theorem dX8_needHarbour_28 : decode cX8_needHarbour 28 = .ok (.athrow, 1) := by decide +kernel
theorem dX8_needHarbour_29 : decode cX8_needHarbour 29 = .ok (.return_, 1) := by decide +kernel
theorem dX8_needRiver_0 : decode cX8_needRiver 0 = .ok (.iload_n 1, 1) := by decide +kernel
theorem dX8_needRiver_1 : decode cX8_needRiver 1 = .ok (.ifCond .lt 17, 3) := by decide +kernel
theorem dX8_needRiver_4 : decode cX8_needRiver 4 = .ok (.iload_n 1, 1) := by decide +kernel
theorem dX8_needRiver_5 : decode cX8_needRiver 5 = .ok (.aload_n 0, 1) := by decide +kernel
theorem dX8_needRiver_6 : decode cX8_needRiver 6 = .ok (.getfield 10, 3) := by decide +kernel
theorem dX8_needRiver_9 : decode cX8_needRiver 9 = .ok (.getfield 106, 3) := by decide +kernel
theorem dX8_needRiver_12 : decode cX8_needRiver 12 = .ok (.getfield 122, 3) := by decide +kernel
theorem dX8_needRiver_15 : decode cX8_needRiver 15 = .ok (.if_icmp .lt 14, 3) := by decide +kernel
theorem dX8_needRiver_18 : decode cX8_needRiver 18 = .ok (.new 322, 3) := by decide +kernel
theorem dX8_needRiver_21 : decode cX8_needRiver 21 = .ok (.dup, 1) := by decide +kernel
theorem dX8_needRiver_22 : decode cX8_needRiver 22 = .ok (.ldc_w 358, 3) := by decide +kernel
theorem dX8_needRiver_25 : decode cX8_needRiver 25 = .ok (.invokespecial 326, 3) := by decide +kernel
theorem dX8_needRiver_28 : decode cX8_needRiver 28 = .ok (.athrow, 1) := by decide +kernel
theorem dX8_needRiver_29 : decode cX8_needRiver 29 = .ok (.return_, 1) := by decide +kernel
theorem dX8_needDirection_0 : decode cX8_needDirection 0 = .ok (.iload_n 0, 1) := by decide +kernel
theorem dX8_needDirection_1 : decode cX8_needDirection 1 = .ok (.ifCond .lt 8, 3) := by decide +kernel
theorem dX8_needDirection_4 : decode cX8_needDirection 4 = .ok (.iload_n 0, 1) := by decide +kernel
theorem dX8_needDirection_5 : decode cX8_needDirection 5 = .ok (.iconst 4, 1) := by decide +kernel
theorem dX8_needDirection_6 : decode cX8_needDirection 6 = .ok (.if_icmp .lt 14, 3) := by decide +kernel
theorem dX8_needDirection_9 : decode cX8_needDirection 9 = .ok (.new 154, 3) := by decide +kernel
theorem dX8_needDirection_12 : decode cX8_needDirection 12 = .ok (.dup, 1) := by decide +kernel
theorem dX8_needDirection_13 : decode cX8_needDirection 13 = .ok (.ldc_w 360, 3) := by decide +kernel
theorem dX8_needDirection_16 : decode cX8_needDirection 16 = .ok (.invokespecial 158, 3) := by decide +kernel
theorem dX8_needDirection_19 : decode cX8_needDirection 19 = .ok (.athrow, 1) := by decide +kernel
theorem dX8_needDirection_20 : decode cX8_needDirection 20 = .ok (.return_, 1) := by decide +kernel
theorem dX8_needTurn_0 : decode cX8_needTurn 0 = .ok (.iload_n 0, 1) := by decide +kernel
theorem dX8_needTurn_1 : decode cX8_needTurn 1 = .ok (.ifCond .lt 8, 3) := by decide +kernel
theorem dX8_needTurn_4 : decode cX8_needTurn 4 = .ok (.iload_n 0, 1) := by decide +kernel
theorem dX8_needTurn_5 : decode cX8_needTurn 5 = .ok (.iconst 4, 1) := by decide +kernel
theorem dX8_needTurn_6 : decode cX8_needTurn 6 = .ok (.if_icmp .lt 14, 3) := by decide +kernel
theorem dX8_needTurn_9 : decode cX8_needTurn 9 = .ok (.new 154, 3) := by decide +kernel
theorem dX8_needTurn_12 : decode cX8_needTurn 12 = .ok (.dup, 1) := by decide +kernel
theorem dX8_needTurn_13 : decode cX8_needTurn 13 = .ok (.ldc_w 362, 3) := by decide +kernel
theorem dX8_needTurn_16 : decode cX8_needTurn 16 = .ok (.invokespecial 158, 3) := by decide +kernel
theorem dX8_needTurn_19 : decode cX8_needTurn 19 = .ok (.athrow, 1) := by decide +kernel
theorem dX8_needTurn_20 : decode cX8_needTurn 20 = .ok (.return_, 1) := by decide +kernel
theorem dX8_needSlot_0 : decode cX8_needSlot 0 = .ok (.iload_n 0, 1) := by decide +kernel
theorem dX8_needSlot_1 : decode cX8_needSlot 1 = .ok (.ifCond .lt 8, 3) := by decide +kernel
theorem dX8_needSlot_4 : decode cX8_needSlot 4 = .ok (.iload_n 0, 1) := by decide +kernel
theorem dX8_needSlot_5 : decode cX8_needSlot 5 = .ok (.iconst 2, 1) := by decide +kernel
theorem dX8_needSlot_6 : decode cX8_needSlot 6 = .ok (.if_icmp .lt 14, 3) := by decide +kernel
theorem dX8_needSlot_9 : decode cX8_needSlot 9 = .ok (.new 154, 3) := by decide +kernel
theorem dX8_needSlot_12 : decode cX8_needSlot 12 = .ok (.dup, 1) := by decide +kernel
theorem dX8_needSlot_13 : decode cX8_needSlot 13 = .ok (.ldc_w 364, 3) := by decide +kernel
theorem dX8_needSlot_16 : decode cX8_needSlot 16 = .ok (.invokespecial 158, 3) := by decide +kernel
theorem dX8_needSlot_19 : decode cX8_needSlot 19 = .ok (.athrow, 1) := by decide +kernel
theorem dX8_needSlot_20 : decode cX8_needSlot 20 = .ok (.return_, 1) := by decide +kernel
set_option maxRecDepth 20000 in
theorem ggX8_wayFrom_X7_survey : GoodIn wsX8_wayFrom wsX7_survey := goodIn_r _ [7, 8, 9, 10, 11, 12, 13, 14, 15, 16, 17, 18, 19, 20, 21, 22, 23, 24, 25, 26, 27, 28, 29, 30, 31, 32, 33, 34, 35, 36, 37, 38, 39, 40, 41, 42, 43, 44, 45, 46, 47, 48, 49, 50, 51, 52, 53, 54, 55, 56, 57, 58, 59, 60, 61, 62, 6, 63, 64, 65, 66, 67, 68, 89, 90, 91, 92, 93, 94, 95, 96, 97, 98, 99, 100, 101, 102, 103, 104, 105, 106, 107, 108, 109] (by decide +kernel) (by decide +kernel)
set_option maxRecDepth 20000 in
theorem gX8_wayFrom_X7_survey : GoodIn wsX8_wayFrom (wsV RX8 279 RX7 yX7_survey wsX7_survey) := goodIn_app (goodIn_of _ (by decide +kernel)) ggX8_wayFrom_X7_survey
set_option maxRecDepth 20000 in
theorem ggX8_wayFrom_X7_trace : GoodIn wsX8_wayFrom wsX7_trace := goodIn_r _ [72, 73, 74, 13, 12, 65, 66, 67, 6, 68, 75, 76, 77, 78, 64, 55, 56, 17, 57, 19, 20, 94, 95, 96, 97, 98, 99, 100, 101, 102, 103] (by decide +kernel) (by decide +kernel)
set_option maxRecDepth 20000 in
theorem gX8_wayFrom_X7_trace : GoodIn wsX8_wayFrom (wsV RX8 282 RX7 yX7_trace wsX7_trace) := goodIn_app (goodIn_of _ (by decide +kernel)) ggX8_wayFrom_X7_trace
theorem dX8_wayFrom_0 : decode cX8_wayFrom 0 = .ok (.aload_n 0, 1) := by decide +kernel
theorem dX8_wayFrom_1 : decode cX8_wayFrom 1 = .ok (.getfield 26, 3) := by decide +kernel
theorem dX8_wayFrom_4 : decode cX8_wayFrom 4 = .ok (.aload_n 0, 1) := by decide +kernel
theorem dX8_wayFrom_5 : decode cX8_wayFrom 5 = .ok (.getfield 10, 3) := by decide +kernel
theorem dX8_wayFrom_8 : decode cX8_wayFrom 8 = .ok (.invokevirtual 279, 3) := by decide +kernel
theorem dX8_wayFrom_11 : decode cX8_wayFrom 11 = .ok (.aload_n 0, 1) := by decide +kernel
theorem dX8_wayFrom_12 : decode cX8_wayFrom 12 = .ok (.getfield 26, 3) := by decide +kernel
theorem dX8_wayFrom_15 : decode cX8_wayFrom 15 = .ok (.aload_n 0, 1) := by decide +kernel
theorem dX8_wayFrom_16 : decode cX8_wayFrom 16 = .ok (.getfield 10, 3) := by decide +kernel
theorem dX8_wayFrom_19 : decode cX8_wayFrom 19 = .ok (.getfield 106, 3) := by decide +kernel
theorem dX8_wayFrom_22 : decode cX8_wayFrom 22 = .ok (.iload_n 1, 1) := by decide +kernel
theorem dX8_wayFrom_23 : decode cX8_wayFrom 23 = .ok (.invokevirtual 282, 3) := by decide +kernel
theorem dX8_wayFrom_26 : decode cX8_wayFrom 26 = .ok (.ireturn, 1) := by decide +kernel
set_option maxRecDepth 20000 in
theorem ggX8_signOf_X1_isLand : GoodIn wsX8_signOf wsX1_isLand := goodIn_r _ [6, 7, 53, 54, 55, 56, 57, 58] (by decide +kernel) (by decide +kernel)
set_option maxRecDepth 20000 in
theorem gX8_signOf_X1_isLand : GoodIn wsX8_signOf (wsV RX8 168 RX1 yX1_isLand wsX1_isLand) := goodIn_app (goodIn_of _ (by decide +kernel)) ggX8_signOf_X1_isLand
set_option maxRecDepth 20000 in
theorem ggX8_signOf_X2_inCell : GoodIn wsX8_signOf wsX2_inCell := goodIn_r _ [12, 13, 14, 47, 48, 49, 50, 51, 52] (by decide +kernel) (by decide +kernel)
set_option maxRecDepth 20000 in
theorem gX8_signOf_X2_inCell : GoodIn wsX8_signOf (wsV RX8 171 RX2 yX2_inCell wsX2_inCell) := goodIn_app (goodIn_of _ (by decide +kernel)) ggX8_signOf_X2_inCell
set_option maxRecDepth 20000 in
theorem ggX8_signOf_X6_namesIn : GoodIn wsX8_signOf wsX6_namesIn := goodIn_r _ [19, 20, 42, 43, 44, 45, 46] (by decide +kernel) (by decide +kernel)
set_option maxRecDepth 20000 in
theorem gX8_signOf_X6_namesIn : GoodIn wsX8_signOf (wsV RX8 180 RX6 yX6_namesIn wsX6_namesIn) := goodIn_app (goodIn_of _ (by decide +kernel)) ggX8_signOf_X6_namesIn
set_option maxRecDepth 20000 in
theorem ggX8_signOf_X6_letterIn : GoodIn wsX8_signOf wsX6_letterIn := goodIn_r _ [24, 25, 26, 16, 17, 18, 19, 20, 42, 43, 44, 45, 46] (by decide +kernel) (by decide +kernel)
set_option maxRecDepth 20000 in
theorem gX8_signOf_X6_letterIn : GoodIn wsX8_signOf (wsV RX8 177 RX6 yX6_letterIn wsX6_letterIn) := goodIn_app (goodIn_of _ (by decide +kernel)) ggX8_signOf_X6_letterIn
set_option maxRecDepth 20000 in
theorem ggX8_signOf_X1_isRiver : GoodIn wsX8_signOf wsX1_isRiver := goodIn_r _ [30, 31, 53, 54, 55, 56, 57, 58] (by decide +kernel) (by decide +kernel)
set_option maxRecDepth 20000 in
theorem gX8_signOf_X1_isRiver : GoodIn wsX8_signOf (wsV RX8 164 RX1 yX1_isRiver wsX1_isRiver) := goodIn_app (goodIn_of _ (by decide +kernel)) ggX8_signOf_X1_isRiver
theorem dX8_signOf_0 : decode cX8_signOf 0 = .ok (.aload_n 0, 1) := by decide +kernel
theorem dX8_signOf_1 : decode cX8_signOf 1 = .ok (.getfield 10, 3) := by decide +kernel
theorem dX8_signOf_4 : decode cX8_signOf 4 = .ok (.getfield 106, 3) := by decide +kernel
theorem dX8_signOf_7 : decode cX8_signOf 7 = .ok (.iload_n 1, 1) := by decide +kernel
theorem dX8_signOf_8 : decode cX8_signOf 8 = .ok (.invokevirtual 168, 3) := by decide +kernel
theorem dX8_signOf_11 : decode cX8_signOf 11 = .ok (.ifCond .ne 6, 3) := by decide +kernel
theorem dX8_signOf_14 : decode cX8_signOf 14 = .ok (.bipush 126, 2) := by decide +kernel
theorem dX8_signOf_16 : decode cX8_signOf 16 = .ok (.ireturn, 1) := by decide +kernel
theorem dX8_signOf_17 : decode cX8_signOf 17 = .ok (.aload_n 0, 1) := by decide +kernel
theorem dX8_signOf_18 : decode cX8_signOf 18 = .ok (.getfield 10, 3) := by decide +kernel
theorem dX8_signOf_21 : decode cX8_signOf 21 = .ok (.getfield 97, 3) := by decide +kernel
theorem dX8_signOf_24 : decode cX8_signOf 24 = .ok (.iload_n 1, 1) := by decide +kernel
theorem dX8_signOf_25 : decode cX8_signOf 25 = .ok (.invokevirtual 171, 3) := by decide +kernel
theorem dX8_signOf_28 : decode cX8_signOf 28 = .ok (.iconst (-1), 1) := by decide +kernel
theorem dX8_signOf_29 : decode cX8_signOf 29 = .ok (.if_icmp .eq 6, 3) := by decide +kernel
theorem dX8_signOf_32 : decode cX8_signOf 32 = .ok (.bipush 64, 2) := by decide +kernel
theorem dX8_signOf_34 : decode cX8_signOf 34 = .ok (.ireturn, 1) := by decide +kernel
theorem dX8_signOf_35 : decode cX8_signOf 35 = .ok (.aload_n 0, 1) := by decide +kernel
theorem dX8_signOf_36 : decode cX8_signOf 36 = .ok (.getfield 10, 3) := by decide +kernel
theorem dX8_signOf_39 : decode cX8_signOf 39 = .ok (.iload_n 1, 1) := by decide +kernel
theorem dX8_signOf_40 : decode cX8_signOf 40 = .ok (.invokevirtual 180, 3) := by decide +kernel
theorem dX8_signOf_43 : decode cX8_signOf 43 = .ok (.istore_n 2, 1) := by decide +kernel
theorem dX8_signOf_44 : decode cX8_signOf 44 = .ok (.iload_n 2, 1) := by decide +kernel
theorem dX8_signOf_45 : decode cX8_signOf 45 = .ok (.ifCond .eq 51, 3) := by decide +kernel
theorem dX8_signOf_48 : decode cX8_signOf 48 = .ok (.iload_n 2, 1) := by decide +kernel
theorem dX8_signOf_49 : decode cX8_signOf 49 = .ok (.aload_n 0, 1) := by decide +kernel
theorem dX8_signOf_50 : decode cX8_signOf 50 = .ok (.getfield 10, 3) := by decide +kernel
theorem dX8_signOf_53 : decode cX8_signOf 53 = .ok (.getfield 97, 3) := by decide +kernel
theorem dX8_signOf_56 : decode cX8_signOf 56 = .ok (.getfield 134, 3) := by decide +kernel
theorem dX8_signOf_59 : decode cX8_signOf 59 = .ok (.iand, 1) := by decide +kernel
theorem dX8_signOf_60 : decode cX8_signOf 60 = .ok (.ifCond .eq 7, 3) := by decide +kernel
theorem dX8_signOf_63 : decode cX8_signOf 63 = .ok (.iconst 1, 1) := by decide +kernel
theorem dX8_signOf_64 : decode cX8_signOf 64 = .ok (.goto 4, 3) := by decide +kernel
theorem dX8_signOf_67 : decode cX8_signOf 67 = .ok (.iconst 0, 1) := by decide +kernel
theorem dX8_signOf_68 : decode cX8_signOf 68 = .ok (.istore_n 3, 1) := by decide +kernel
theorem dX8_signOf_69 : decode cX8_signOf 69 = .ok (.iload_n 3, 1) := by decide +kernel
theorem dX8_signOf_70 : decode cX8_signOf 70 = .ok (.ifCond .eq 17, 3) := by decide +kernel
theorem dX8_signOf_73 : decode cX8_signOf 73 = .ok (.aload_n 0, 1) := by decide +kernel
theorem dX8_signOf_74 : decode cX8_signOf 74 = .ok (.getfield 10, 3) := by decide +kernel
theorem dX8_signOf_77 : decode cX8_signOf 77 = .ok (.iload_n 1, 1) := by decide +kernel
theorem dX8_signOf_78 : decode cX8_signOf 78 = .ok (.invokevirtual 177, 3) := by decide +kernel
theorem dX8_signOf_81 : decode cX8_signOf 81 = .ok (.bipush 32, 2) := by decide +kernel
theorem dX8_signOf_83 : decode cX8_signOf 83 = .ok (.isub, 1) := by decide +kernel
theorem dX8_signOf_84 : decode cX8_signOf 84 = .ok (.goto 11, 3) := by decide +kernel
theorem dX8_signOf_87 : decode cX8_signOf 87 = .ok (.aload_n 0, 1) := by decide +kernel
theorem dX8_signOf_88 : decode cX8_signOf 88 = .ok (.getfield 10, 3) := by decide +kernel
theorem dX8_signOf_91 : decode cX8_signOf 91 = .ok (.iload_n 1, 1) := by decide +kernel
theorem dX8_signOf_92 : decode cX8_signOf 92 = .ok (.invokevirtual 177, 3) := by decide +kernel
theorem dX8_signOf_95 : decode cX8_signOf 95 = .ok (.ireturn, 1) := by decide +kernel
theorem dX8_signOf_96 : decode cX8_signOf 96 = .ok (.aload_n 0, 1) := by decide +kernel
theorem dX8_signOf_97 : decode cX8_signOf 97 = .ok (.getfield 10, 3) := by decide +kernel
theorem dX8_signOf_100 : decode cX8_signOf 100 = .ok (.getfield 106, 3) := by decide +kernel
theorem dX8_signOf_103 : decode cX8_signOf 103 = .ok (.iload_n 1, 1) := by decide +kernel
theorem dX8_signOf_104 : decode cX8_signOf 104 = .ok (.invokevirtual 164, 3) := by decide +kernel
theorem dX8_signOf_107 : decode cX8_signOf 107 = .ok (.ifCond .eq 8, 3) := by decide +kernel
theorem dX8_signOf_110 : decode cX8_signOf 110 = .ok (.bipush 61, 2) := by decide +kernel
theorem dX8_signOf_112 : decode cX8_signOf 112 = .ok (.goto 5, 3) := by decide +kernel
theorem dX8_signOf_115 : decode cX8_signOf 115 = .ok (.bipush 46, 2) := by decide +kernel
theorem dX8_signOf_117 : decode cX8_signOf 117 = .ok (.ireturn, 1) := by decide +kernel
theorem dX8_byteOf_0 : decode cX8_byteOf 0 = .ok (.lload_n 0, 1) := by decide +kernel
theorem dX8_byteOf_1 : decode cX8_byteOf 1 = .ok (.iload_n 2, 1) := by decide +kernel
theorem dX8_byteOf_2 : decode cX8_byteOf 2 = .ok (.lushr, 1) := by decide +kernel
theorem dX8_byteOf_3 : decode cX8_byteOf 3 = .ok (.ldc2_w 366, 3) := by decide +kernel
theorem dX8_byteOf_6 : decode cX8_byteOf 6 = .ok (.land, 1) := by decide +kernel
theorem dX8_byteOf_7 : decode cX8_byteOf 7 = .ok (.l2i, 1) := by decide +kernel
theorem dX8_byteOf_8 : decode cX8_byteOf 8 = .ok (.ireturn, 1) := by decide +kernel
theorem dX8_uprightTurn_0 : decode cX8_uprightTurn 0 = .ok (.iload_n 0, 1) := by decide +kernel
theorem dX8_uprightTurn_1 : decode cX8_uprightTurn 1 = .ok (.iconst 3, 1) := by decide +kernel
theorem dX8_uprightTurn_2 : decode cX8_uprightTurn 2 = .ok (.iadd, 1) := by decide +kernel
theorem dX8_uprightTurn_3 : decode cX8_uprightTurn 3 = .ok (.iconst 4, 1) := by decide +kernel
theorem dX8_uprightTurn_4 : decode cX8_uprightTurn 4 = .ok (.irem, 1) := by decide +kernel
theorem dX8_uprightTurn_5 : decode cX8_uprightTurn 5 = .ok (.ireturn, 1) := by decide +kernel
theorem dX8_quartersBetween_0 : decode cX8_quartersBetween 0 = .ok (.iload_n 0, 1) := by decide +kernel
theorem dX8_quartersBetween_1 : decode cX8_quartersBetween 1 = .ok (.iload_n 1, 1) := by decide +kernel
theorem dX8_quartersBetween_2 : decode cX8_quartersBetween 2 = .ok (.isub, 1) := by decide +kernel
theorem dX8_quartersBetween_3 : decode cX8_quartersBetween 3 = .ok (.invokestatic 368, 3) := by decide +kernel
theorem dX8_quartersBetween_6 : decode cX8_quartersBetween 6 = .ok (.istore_n 2, 1) := by decide +kernel
theorem dX8_quartersBetween_7 : decode cX8_quartersBetween 7 = .ok (.iload_n 2, 1) := by decide +kernel
theorem dX8_quartersBetween_8 : decode cX8_quartersBetween 8 = .ok (.iconst 4, 1) := by decide +kernel
theorem dX8_quartersBetween_9 : decode cX8_quartersBetween 9 = .ok (.iload_n 2, 1) := by decide +kernel
theorem dX8_quartersBetween_10 : decode cX8_quartersBetween 10 = .ok (.isub, 1) := by decide +kernel
theorem dX8_quartersBetween_11 : decode cX8_quartersBetween 11 = .ok (.invokestatic 373, 3) := by decide +kernel
theorem dX8_quartersBetween_14 : decode cX8_quartersBetween 14 = .ok (.ireturn, 1) := by decide +kernel
