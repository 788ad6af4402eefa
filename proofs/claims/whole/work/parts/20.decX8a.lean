set_option maxRecDepth 20000 in
theorem ggX8_init_X6_init : GoodIn wsX8_init wsX6_init := goodIn_r _ [29, 30, 2, 3, 31, 32, 33, 34, 35, 36, 37, 38, 39, 40, 41, 42, 24, 43, 44, 45, 46, 47, 48, 49, 50, 51, 52, 53, 54, 55, 56, 57, 58, 59, 60, 61, 62, 162, 163, 164, 165, 166, 167, 116, 117, 118, 119, 120, 168, 169, 170, 171, 172, 173, 174, 175, 176, 177, 178] (by decide +kernel) (by decide +kernel)
set_option maxRecDepth 20000 in
theorem gX8_init_X6_init_n9 : GoodIn wsX8_init (wsX6_init) := ggX8_init_X6_init
set_option maxRecDepth 20000 in
theorem ggX8_init_X3_init : GoodIn wsX8_init wsX3_init := goodIn_r _ [64, 65, 2, 3, 66, 67, 131, 132, 133] (by decide +kernel) (by decide +kernel)
set_option maxRecDepth 20000 in
theorem gX8_init_X3_init_n18 : GoodIn wsX8_init (wsX3_init) := ggX8_init_X3_init
set_option maxRecDepth 20000 in
theorem ggX8_init_X7_init : GoodIn wsX8_init wsX7_init := goodIn_r _ [69, 70, 2, 3, 24, 71, 72, 73, 134, 135, 136, 137] (by decide +kernel) (by decide +kernel)
set_option maxRecDepth 20000 in
theorem gX8_init_X7_init_n25 : GoodIn wsX8_init (wsX7_init) := ggX8_init_X7_init
set_option maxRecDepth 20000 in
theorem ggX8_init_X0_init : GoodIn wsX8_init wsX0_init := goodIn_r _ [75, 76, 2, 3, 24, 77, 78, 79, 80, 81, 82, 138, 139, 140, 141, 142, 143, 144, 145, 146, 147] (by decide +kernel) (by decide +kernel)
set_option maxRecDepth 20000 in
theorem gX8_init_X0_init_n32 : GoodIn wsX8_init (wsX0_init) := ggX8_init_X0_init
set_option maxRecDepth 20000 in
theorem ggX8_init_X5_init : GoodIn wsX8_init wsX5_init := goodIn_r _ [84, 85, 2, 3, 86, 5, 6, 87, 88, 13, 14, 89, 24, 90, 28, 29, 30, 31, 32, 33, 34, 35, 36, 37, 38, 39, 40, 41, 42, 43, 44, 45, 46, 47, 48, 49, 50, 51, 52, 53, 54, 55, 56, 57, 58, 59, 60, 61, 62, 68, 69, 70, 71, 72, 73, 116, 117, 118, 119, 120, 148, 149, 150, 151, 152, 153, 154, 155, 156, 157, 158, 159, 160, 161, 134, 135, 136, 137, 162, 163, 164, 165, 166, 167, 168, 169, 170, 171, 172, 173, 174, 175, 176, 177, 178] (by decide +kernel) (by decide +kernel)
set_option maxRecDepth 20000 in
theorem gX8_init_X5_init_n39 : GoodIn wsX8_init (wsX5_init) := ggX8_init_X5_init
set_option maxRecDepth 20000 in
theorem ggX8_init_X6_beginSea : GoodIn wsX8_init wsX6_beginSea := goodIn_r _ [94, 34, 38, 42, 43, 44, 95, 96, 97, 33, 98, 99, 100, 101, 49, 50, 51, 102, 103, 104, 37, 105, 106, 107, 108, 109, 110, 41, 111, 112, 113, 114, 115, 116, 117, 118, 119, 120, 162, 163, 164, 165, 166, 167, 168, 169, 170, 171, 172, 173, 174, 175, 176, 177, 178] (by decide +kernel) (by decide +kernel)
set_option maxRecDepth 20000 in
theorem gX8_init_X6_beginSea : GoodIn wsX8_init (wsV RX8 56 RX6 yX6_beginSea wsX6_beginSea) := goodIn_app (goodIn_of _ (by decide +kernel)) ggX8_init_X6_beginSea
theorem dX8_init_0 : decode cX8_init 0 = .ok (.aload_n 0, 1) := by decide +kernel
theorem dX8_init_1 : decode cX8_init 1 = .ok (.invokespecial 1, 3) := by decide +kernel
theorem dX8_init_4 : decode cX8_init 4 = .ok (.aload_n 0, 1) := by decide +kernel
theorem dX8_init_5 : decode cX8_init 5 = .ok (.new 7, 3) := by decide +kernel
theorem dX8_init_8 : decode cX8_init 8 = .ok (.dup, 1) := by decide +kernel
theorem dX8_init_9 : decode cX8_init 9 = .ok (.invokespecial 9, 3) := by decide +kernel
theorem dX8_init_12 : decode cX8_init 12 = .ok (.putfield 10, 3) := by decide +kernel
theorem dX8_init_15 : decode cX8_init 15 = .ok (.aload_n 0, 1) := by decide +kernel
theorem dX8_init_16 : decode cX8_init 16 = .ok (.new 16, 3) := by decide +kernel
theorem dX8_init_19 : decode cX8_init 19 = .ok (.dup, 1) := by decide +kernel
theorem dX8_init_20 : decode cX8_init 20 = .ok (.invokespecial 18, 3) := by decide +kernel
theorem dX8_init_23 : decode cX8_init 23 = .ok (.putfield 19, 3) := by decide +kernel
theorem dX8_init_26 : decode cX8_init 26 = .ok (.aload_n 0, 1) := by decide +kernel
theorem dX8_init_27 : decode cX8_init 27 = .ok (.new 23, 3) := by decide +kernel
theorem dX8_init_30 : decode cX8_init 30 = .ok (.dup, 1) := by decide +kernel
theorem dX8_init_31 : decode cX8_init 31 = .ok (.invokespecial 25, 3) := by decide +kernel
theorem dX8_init_34 : decode cX8_init 34 = .ok (.putfield 26, 3) := by decide +kernel
theorem dX8_init_37 : decode cX8_init 37 = .ok (.aload_n 0, 1) := by decide +kernel
theorem dX8_init_38 : decode cX8_init 38 = .ok (.new 30, 3) := by decide +kernel
theorem dX8_init_41 : decode cX8_init 41 = .ok (.dup, 1) := by decide +kernel
theorem dX8_init_42 : decode cX8_init 42 = .ok (.invokespecial 32, 3) := by decide +kernel
theorem dX8_init_45 : decode cX8_init 45 = .ok (.putfield 33, 3) := by decide +kernel
theorem dX8_init_48 : decode cX8_init 48 = .ok (.aload_n 0, 1) := by decide +kernel
theorem dX8_init_49 : decode cX8_init 49 = .ok (.new 37, 3) := by decide +kernel
theorem dX8_init_52 : decode cX8_init 52 = .ok (.dup, 1) := by decide +kernel
theorem dX8_init_53 : decode cX8_init 53 = .ok (.invokespecial 39, 3) := by decide +kernel
theorem dX8_init_56 : decode cX8_init 56 = .ok (.putfield 40, 3) := by decide +kernel
theorem dX8_init_59 : decode cX8_init 59 = .ok (.aload_n 0, 1) := by decide +kernel
theorem dX8_init_60 : decode cX8_init 60 = .ok (.bipush 12, 2) := by decide +kernel
theorem dX8_init_62 : decode cX8_init 62 = .ok (.newarray .int, 2) := by decide +kernel
theorem dX8_init_64 : decode cX8_init 64 = .ok (.putfield 44, 3) := by decide +kernel
theorem dX8_init_67 : decode cX8_init 67 = .ok (.aload_n 0, 1) := by decide +kernel
theorem dX8_init_68 : decode cX8_init 68 = .ok (.iconst 2, 1) := by decide +kernel
theorem dX8_init_69 : decode cX8_init 69 = .ok (.anewarray 7, 3) := by decide +kernel
theorem dX8_init_72 : decode cX8_init 72 = .ok (.putfield 48, 3) := by decide +kernel
theorem dX8_init_75 : decode cX8_init 75 = .ok (.aload_n 0, 1) := by decide +kernel
theorem dX8_init_76 : decode cX8_init 76 = .ok (.iconst (-1), 1) := by decide +kernel
theorem dX8_init_77 : decode cX8_init 77 = .ok (.putfield 52, 3) := by decide +kernel
theorem dX8_init_80 : decode cX8_init 80 = .ok (.aload_n 0, 1) := by decide +kernel
theorem dX8_init_81 : decode cX8_init 81 = .ok (.getfield 10, 3) := by decide +kernel
theorem dX8_init_84 : decode cX8_init 84 = .ok (.iconst 3, 1) := by decide +kernel
theorem dX8_init_85 : decode cX8_init 85 = .ok (.iconst 3, 1) := by decide +kernel
theorem dX8_init_86 : decode cX8_init 86 = .ok (.invokevirtual 56, 3) := by decide +kernel
theorem dX8_init_89 : decode cX8_init 89 = .ok (.return_, 1) := by decide +kernel
set_option maxRecDepth 20000 in
theorem ggX8_append_X8_byteOf : GoodIn wsX8_append wsX8_byteOf := goodIn_r _ [5, 6] (by decide +kernel) (by decide +kernel)
set_option maxRecDepth 20000 in
theorem gX8_append_X8_byteOf : GoodIn wsX8_append (va_wsS RX8 60 yX8_byteOf wsX8_byteOf) := goodIn_app (goodIn_of _ (by decide +kernel)) ggX8_append_X8_byteOf
set_option maxRecDepth 20000 in
theorem ggX8_append_X5_addByte : GoodIn wsX8_append wsX5_addByte := goodIn_r _ [11, 12, 13, 24, 25, 26, 27, 28, 29, 30, 31, 32, 33, 34, 35, 36, 37] (by decide +kernel) (by decide +kernel)
set_option maxRecDepth 20000 in
theorem gX8_append_X5_addByte : GoodIn wsX8_append (wsV RX8 67 RX5 yX5_addByte wsX5_addByte) := goodIn_app (goodIn_of _ (by decide +kernel)) ggX8_append_X5_addByte
theorem dX8_append_0 : decode cX8_append 0 = .ok (.iconst 0, 1) := by decide +kernel
theorem dX8_append_1 : decode cX8_append 1 = .ok (.istore_n 3, 1) := by decide +kernel
theorem dX8_append_2 : decode cX8_append 2 = .ok (.bipush 56, 2) := by decide +kernel
theorem dX8_append_4 : decode cX8_append 4 = .ok (.istore 4, 2) := by decide +kernel
theorem dX8_append_6 : decode cX8_append 6 = .ok (.iload 4, 2) := by decide +kernel
theorem dX8_append_8 : decode cX8_append 8 = .ok (.ifCond .lt 21, 3) := by decide +kernel
theorem dX8_append_11 : decode cX8_append 11 = .ok (.lload_n 1, 1) := by decide +kernel
theorem dX8_append_12 : decode cX8_append 12 = .ok (.iload 4, 2) := by decide +kernel
theorem dX8_append_14 : decode cX8_append 14 = .ok (.invokestatic 60, 3) := by decide +kernel
theorem dX8_append_17 : decode cX8_append 17 = .ok (.ifCond .eq 6, 3) := by decide +kernel
theorem dX8_append_20 : decode cX8_append 20 = .ok (.iinc 3 1, 3) := by decide +kernel
theorem dX8_append_23 : decode cX8_append 23 = .ok (.iinc 4 (-8), 3) := by decide +kernel
theorem dX8_append_26 : decode cX8_append 26 = .ok (.goto (-20), 3) := by decide +kernel
theorem dX8_append_29 : decode cX8_append 29 = .ok (.aload_n 0, 1) := by decide +kernel
theorem dX8_append_30 : decode cX8_append 30 = .ok (.getfield 40, 3) := by decide +kernel
theorem dX8_append_33 : decode cX8_append 33 = .ok (.getfield 64, 3) := by decide +kernel
theorem dX8_append_36 : decode cX8_append 36 = .ok (.iload_n 3, 1) := by decide +kernel
theorem dX8_append_37 : decode cX8_append 37 = .ok (.iadd, 1) := by decide +kernel
theorem dX8_append_38 : decode cX8_append 38 = .ok (.sipush 500, 3) := by decide +kernel
theorem dX8_append_41 : decode cX8_append 41 = .ok (.if_icmp .le 6, 3) := by decide +kernel
theorem dX8_append_44 : decode cX8_append 44 = .ok (.bipush (-2), 2) := by decide +kernel
theorem dX8_append_46 : decode cX8_append 46 = .ok (.ireturn, 1) := by decide +kernel
theorem dX8_append_47 : decode cX8_append 47 = .ok (.bipush 56, 2) := by decide +kernel
theorem dX8_append_49 : decode cX8_append 49 = .ok (.istore 4, 2) := by decide +kernel
theorem dX8_append_51 : decode cX8_append 51 = .ok (.iload 4, 2) := by decide +kernel
theorem dX8_append_53 : decode cX8_append 53 = .ok (.ifCond .lt 31, 3) := by decide +kernel
theorem dX8_append_56 : decode cX8_append 56 = .ok (.lload_n 1, 1) := by decide +kernel
theorem dX8_append_57 : decode cX8_append 57 = .ok (.iload 4, 2) := by decide +kernel
theorem dX8_append_59 : decode cX8_append 59 = .ok (.invokestatic 60, 3) := by decide +kernel
theorem dX8_append_62 : decode cX8_append 62 = .ok (.ifCond .eq 16, 3) := by decide +kernel
theorem dX8_append_65 : decode cX8_append 65 = .ok (.aload_n 0, 1) := by decide +kernel
theorem dX8_append_66 : decode cX8_append 66 = .ok (.getfield 40, 3) := by decide +kernel
theorem dX8_append_69 : decode cX8_append 69 = .ok (.lload_n 1, 1) := by decide +kernel
theorem dX8_append_70 : decode cX8_append 70 = .ok (.iload 4, 2) := by decide +kernel
theorem dX8_append_72 : decode cX8_append 72 = .ok (.invokestatic 60, 3) := by decide +kernel
theorem dX8_append_75 : decode cX8_append 75 = .ok (.invokevirtual 67, 3) := by decide +kernel
theorem dX8_append_78 : decode cX8_append 78 = .ok (.iinc 4 (-8), 3) := by decide +kernel
theorem dX8_append_81 : decode cX8_append 81 = .ok (.goto (-30), 3) := by decide +kernel
theorem dX8_append_84 : decode cX8_append 84 = .ok (.aload_n 0, 1) := by decide +kernel
theorem dX8_append_85 : decode cX8_append 85 = .ok (.getfield 40, 3) := by decide +kernel
theorem dX8_append_88 : decode cX8_append 88 = .ok (.getfield 64, 3) := by decide +kernel
theorem dX8_append_91 : decode cX8_append 91 = .ok (.ireturn, 1) := by decide +kernel
set_option maxRecDepth 20000 in
theorem ggX8_load_X5_readText : GoodIn wsX8_load wsX5_readText := goodIn_r _ [10, 11, 12, 13, 14, 15, 16, 17, 18, 19, 9, 20, 21, 22, 23, 24, 25, 26, 27, 28, 29, 30, 31, 32, 33, 34, 35, 36, 37, 38, 39, 40, 41, 42, 43, 44, 45, 46, 47, 48, 49, 50, 51, 52, 53, 54, 55, 56, 57, 58, 59, 60, 61, 62, 63, 64, 65, 66, 67, 68, 69, 70, 71, 72, 73, 74, 75, 76, 77, 78, 79, 80, 81, 82, 83, 84, 85, 86, 87, 88, 89, 90, 91, 92, 93, 94, 95, 96, 97, 98, 99, 100, 101, 102, 103, 104, 105, 106, 107, 108, 109, 110, 111, 112, 113, 114, 115, 116, 117, 118, 119, 120, 121, 122, 123, 124, 125, 126, 127, 128, 129, 130, 131, 132, 133, 134, 135, 136, 137, 138, 139, 140, 141, 142, 143, 144, 145, 146, 147, 148, 149, 150, 151, 152, 153, 154, 155, 156, 157, 158, 159, 160, 161, 162, 163, 164, 165, 166, 167, 168, 169, 170, 171, 172, 173, 174, 175, 176, 177, 178, 179, 180, 181, 182, 183, 184, 185, 186, 187, 188, 189, 190, 191, 192, 193, 194, 195, 196, 197, 198, 199, 200, 201, 202, 203, 204, 205, 206, 207, 208, 209, 210, 211, 212, 213, 214, 215, 216, 217, 218, 219, 220, 221, 222, 223, 224, 225, 226, 227, 228, 229, 230, 231, 232, 233, 234, 235, 236, 237, 238, 239, 240, 241, 242, 243, 244, 245, 246, 247, 248, 249, 250, 251, 252, 253, 254, 255, 256, 257, 258, 259, 260, 261, 262, 263, 264, 265, 266, 267, 268, 269, 270, 271, 272, 273, 274, 275, 276, 277, 278, 279, 280, 281, 282, 283, 284, 285, 286, 287, 288, 289, 290, 291, 292, 293, 294, 295, 296, 297, 298, 299, 300, 301, 302, 303, 304, 305, 306, 307, 308, 309, 310, 311, 312, 313, 314, 315, 316, 317, 318, 319, 320, 321, 322, 323, 324, 325, 326, 327, 328, 329, 330, 331, 332, 333, 334, 335, 336, 337, 338, 339, 340, 341, 342, 343, 344, 345, 346, 347, 348, 349, 350, 351, 352, 353, 354, 355, 356, 357, 358, 359, 360, 361, 394, 395, 396, 397, 398, 399, 400, 401, 402, 403, 404, 405, 406, 407, 408, 409, 410, 411, 412, 419, 420, 421, 422, 423, 424, 413, 414, 415, 416, 417, 418, 425, 426, 427, 428, 429, 430, 431, 432, 433] (by decide +kernel) (by decide +kernel)
set_option maxRecDepth 20000 in
theorem gX8_load_X5_readText : GoodIn wsX8_load (wsV RX8 71 RX5 yX5_readText wsX5_readText) := goodIn_app (goodIn_of _ (by decide +kernel)) ggX8_load_X5_readText
set_option maxRecDepth 20000 in
theorem ggX8_load_X6_copyFrom : GoodIn wsX8_load wsX6_copyFrom := goodIn_r _ [365, 115, 116, 117, 118, 119, 366, 367, 368, 123, 369, 125, 126, 127, 128, 129, 130, 370, 371, 372, 134, 373, 136, 137, 210, 228, 187, 192, 374, 375, 376, 141, 377, 143, 144, 145, 146, 357, 408, 409, 410, 411, 412, 419, 420, 421, 422, 423, 424, 413, 414, 415, 416, 417, 418, 425, 426, 427, 428, 429] (by decide +kernel) (by decide +kernel)
set_option maxRecDepth 20000 in
theorem gX8_load_X6_copyFrom : GoodIn wsX8_load (wsV RX8 90 RX6 yX6_copyFrom wsX6_copyFrom) := goodIn_app (goodIn_of _ (by decide +kernel)) ggX8_load_X6_copyFrom
set_option maxRecDepth 20000 in
theorem ggX8_load_X3_forget : GoodIn wsX8_load wsX3_forget := goodIn_r _ [382, 383, 434, 435, 436] (by decide +kernel) (by decide +kernel)
set_option maxRecDepth 20000 in
theorem gX8_load_X3_forget : GoodIn wsX8_load (wsV RX8 94 RX3 yX3_forget wsX3_forget) := goodIn_app (goodIn_of _ (by decide +kernel)) ggX8_load_X3_forget
theorem dX8_load_0 : decode cX8_load 0 = .ok (.aload_n 0, 1) := by decide +kernel
theorem dX8_load_1 : decode cX8_load 1 = .ok (.getfield 40, 3) := by decide +kernel
theorem dX8_load_4 : decode cX8_load 4 = .ok (.invokevirtual 71, 3) := by decide +kernel
theorem dX8_load_7 : decode cX8_load 7 = .ok (.istore_n 1, 1) := by decide +kernel
theorem dX8_load_8 : decode cX8_load 8 = .ok (.aload_n 0, 1) := by decide +kernel
theorem dX8_load_9 : decode cX8_load 9 = .ok (.getfield 40, 3) := by decide +kernel
theorem dX8_load_12 : decode cX8_load 12 = .ok (.iconst 0, 1) := by decide +kernel
theorem dX8_load_13 : decode cX8_load 13 = .ok (.putfield 64, 3) := by decide +kernel
theorem dX8_load_16 : decode cX8_load 16 = .ok (.aload_n 0, 1) := by decide +kernel
theorem dX8_load_17 : decode cX8_load 17 = .ok (.iload_n 1, 1) := by decide +kernel
theorem dX8_load_18 : decode cX8_load 18 = .ok (.ifCond .eq 7, 3) := by decide +kernel
theorem dX8_load_21 : decode cX8_load 21 = .ok (.iconst 0, 1) := by decide +kernel
theorem dX8_load_22 : decode cX8_load 22 = .ok (.goto 10, 3) := by decide +kernel
theorem dX8_load_25 : decode cX8_load 25 = .ok (.aload_n 0, 1) := by decide +kernel
theorem dX8_load_26 : decode cX8_load 26 = .ok (.getfield 40, 3) := by decide +kernel
theorem dX8_load_29 : decode cX8_load 29 = .ok (.getfield 75, 3) := by decide +kernel
theorem dX8_load_32 : decode cX8_load 32 = .ok (.putfield 78, 3) := by decide +kernel
theorem dX8_load_35 : decode cX8_load 35 = .ok (.aload_n 0, 1) := by decide +kernel
theorem dX8_load_36 : decode cX8_load 36 = .ok (.iload_n 1, 1) := by decide +kernel
theorem dX8_load_37 : decode cX8_load 37 = .ok (.ifCond .eq 7, 3) := by decide +kernel
theorem dX8_load_40 : decode cX8_load 40 = .ok (.iconst (-1), 1) := by decide +kernel
theorem dX8_load_41 : decode cX8_load 41 = .ok (.goto 10, 3) := by decide +kernel
theorem dX8_load_44 : decode cX8_load 44 = .ok (.aload_n 0, 1) := by decide +kernel
theorem dX8_load_45 : decode cX8_load 45 = .ok (.getfield 40, 3) := by decide +kernel
theorem dX8_load_48 : decode cX8_load 48 = .ok (.getfield 81, 3) := by decide +kernel
theorem dX8_load_51 : decode cX8_load 51 = .ok (.putfield 52, 3) := by decide +kernel
theorem dX8_load_54 : decode cX8_load 54 = .ok (.iload_n 1, 1) := by decide +kernel
theorem dX8_load_55 : decode cX8_load 55 = .ok (.ifCond .ne 14, 3) := by decide +kernel
theorem dX8_load_58 : decode cX8_load 58 = .ok (.bipush (-100), 2) := by decide +kernel
theorem dX8_load_60 : decode cX8_load 60 = .ok (.aload_n 0, 1) := by decide +kernel
theorem dX8_load_61 : decode cX8_load 61 = .ok (.getfield 40, 3) := by decide +kernel
theorem dX8_load_64 : decode cX8_load 64 = .ok (.getfield 84, 3) := by decide +kernel
theorem dX8_load_67 : decode cX8_load 67 = .ok (.isub, 1) := by decide +kernel
theorem dX8_load_68 : decode cX8_load 68 = .ok (.ireturn, 1) := by decide +kernel
theorem dX8_load_69 : decode cX8_load 69 = .ok (.aload_n 0, 1) := by decide +kernel
theorem dX8_load_70 : decode cX8_load 70 = .ok (.getfield 10, 3) := by decide +kernel
theorem dX8_load_73 : decode cX8_load 73 = .ok (.aload_n 0, 1) := by decide +kernel
theorem dX8_load_74 : decode cX8_load 74 = .ok (.getfield 40, 3) := by decide +kernel
theorem dX8_load_77 : decode cX8_load 77 = .ok (.getfield 87, 3) := by decide +kernel
theorem dX8_load_80 : decode cX8_load 80 = .ok (.invokevirtual 90, 3) := by decide +kernel
theorem dX8_load_83 : decode cX8_load 83 = .ok (.aload_n 0, 1) := by decide +kernel
theorem dX8_load_84 : decode cX8_load 84 = .ok (.getfield 19, 3) := by decide +kernel
theorem dX8_load_87 : decode cX8_load 87 = .ok (.invokevirtual 94, 3) := by decide +kernel
theorem dX8_load_90 : decode cX8_load 90 = .ok (.aload_n 0, 1) := by decide +kernel
theorem dX8_load_91 : decode cX8_load 91 = .ok (.getfield 10, 3) := by decide +kernel
theorem dX8_load_94 : decode cX8_load 94 = .ok (.getfield 97, 3) := by decide +kernel
theorem dX8_load_97 : decode cX8_load 97 = .ok (.getfield 101, 3) := by decide +kernel
theorem dX8_load_100 : decode cX8_load 100 = .ok (.ireturn, 1) := by decide +kernel
theorem dX8_loadError_0 : decode cX8_loadError 0 = .ok (.aload_n 0, 1) := by decide +kernel
theorem dX8_loadError_1 : decode cX8_loadError 1 = .ok (.getfield 78, 3) := by decide +kernel
theorem dX8_loadError_4 : decode cX8_loadError 4 = .ok (.ireturn, 1) := by decide +kernel
theorem dX8_loadStatement_0 : decode cX8_loadStatement 0 = .ok (.aload_n 0, 1) := by decide +kernel
theorem dX8_loadStatement_1 : decode cX8_loadStatement 1 = .ok (.getfield 52, 3) := by decide +kernel
theorem dX8_loadStatement_4 : decode cX8_loadStatement 4 = .ok (.ireturn, 1) := by decide +kernel
set_option maxRecDepth 20000 in
theorem ggX8_size_X1_landCells : GoodIn wsX8_size wsX1_landCells := goodIn_r _ [9, 10, 44, 45, 46, 47, 48, 49] (by decide +kernel) (by decide +kernel)
set_option maxRecDepth 20000 in
theorem gX8_size_X1_landCells : GoodIn wsX8_size (wsV RX8 118 RX1 yX1_landCells wsX1_landCells) := goodIn_app (goodIn_of _ (by decide +kernel)) ggX8_size_X1_landCells
set_option maxRecDepth 20000 in
theorem ggX8_size_X2_placedNames : GoodIn wsX8_size wsX2_placedNames := goodIn_r _ [15, 16, 17, 18, 19, 14, 20, 21, 50, 51, 52, 53, 54, 55] (by decide +kernel) (by decide +kernel)
set_option maxRecDepth 20000 in
theorem gX8_size_X2_placedNames : GoodIn wsX8_size (wsV RX8 125 RX2 yX2_placedNames wsX2_placedNames) := goodIn_app (goodIn_of _ (by decide +kernel)) ggX8_size_X2_placedNames
set_option maxRecDepth 20000 in
theorem ggX8_size_J6_bitCount_0f7a4 : GoodIn wsX8_size wsJ6_bitCount_0f7a4 := goodIn_r _ [25, 26, 27, 28] (by decide +kernel) (by decide +kernel)
set_option maxRecDepth 20000 in
theorem gX8_size_J6_bitCount_0f7a4 : GoodIn wsX8_size (va_wsS RX8 128 yJ6_bitCount_0f7a4 wsJ6_bitCount_0f7a4) := goodIn_app (goodIn_of _ (by decide +kernel)) ggX8_size_J6_bitCount_0f7a4
theorem dX8_size_0 : decode cX8_size 0 = .ok (.iload_n 1, 1) := by decide +kernel
theorem dX8_size_1 : decode cX8_size 1 = .ok (.tableswitch 209 0 11 #[63, 74, 85, 96, 107, 118, 132, 157, 168, 179, 190, 201], 63) := by decide +kernel
theorem dX8_size_64 : decode cX8_size 64 = .ok (.aload_n 0, 1) := by decide +kernel
theorem dX8_size_65 : decode cX8_size 65 = .ok (.getfield 10, 3) := by decide +kernel
theorem dX8_size_68 : decode cX8_size 68 = .ok (.getfield 106, 3) := by decide +kernel
theorem dX8_size_71 : decode cX8_size 71 = .ok (.getfield 110, 3) := by decide +kernel
theorem dX8_size_74 : decode cX8_size 74 = .ok (.ireturn, 1) := by decide +kernel
theorem dX8_size_75 : decode cX8_size 75 = .ok (.aload_n 0, 1) := by decide +kernel
theorem dX8_size_76 : decode cX8_size 76 = .ok (.getfield 10, 3) := by decide +kernel
theorem dX8_size_79 : decode cX8_size 79 = .ok (.getfield 106, 3) := by decide +kernel
theorem dX8_size_82 : decode cX8_size 82 = .ok (.getfield 115, 3) := by decide +kernel
theorem dX8_size_85 : decode cX8_size 85 = .ok (.ireturn, 1) := by decide +kernel
theorem dX8_size_86 : decode cX8_size 86 = .ok (.aload_n 0, 1) := by decide +kernel
theorem dX8_size_87 : decode cX8_size 87 = .ok (.getfield 10, 3) := by decide +kernel
theorem dX8_size_90 : decode cX8_size 90 = .ok (.getfield 106, 3) := by decide +kernel
theorem dX8_size_93 : decode cX8_size 93 = .ok (.invokevirtual 118, 3) := by decide +kernel
theorem dX8_size_96 : decode cX8_size 96 = .ok (.ireturn, 1) := by decide +kernel
theorem dX8_size_97 : decode cX8_size 97 = .ok (.aload_n 0, 1) := by decide +kernel
theorem dX8_size_98 : decode cX8_size 98 = .ok (.getfield 10, 3) := by decide +kernel
theorem dX8_size_101 : decode cX8_size 101 = .ok (.getfield 97, 3) := by decide +kernel
theorem dX8_size_104 : decode cX8_size 104 = .ok (.getfield 101, 3) := by decide +kernel
theorem dX8_size_107 : decode cX8_size 107 = .ok (.ireturn, 1) := by decide +kernel
theorem dX8_size_108 : decode cX8_size 108 = .ok (.aload_n 0, 1) := by decide +kernel
theorem dX8_size_109 : decode cX8_size 109 = .ok (.getfield 10, 3) := by decide +kernel
theorem dX8_size_112 : decode cX8_size 112 = .ok (.getfield 106, 3) := by decide +kernel
theorem dX8_size_115 : decode cX8_size 115 = .ok (.getfield 122, 3) := by decide +kernel
theorem dX8_size_118 : decode cX8_size 118 = .ok (.ireturn, 1) := by decide +kernel
theorem dX8_size_119 : decode cX8_size 119 = .ok (.aload_n 0, 1) := by decide +kernel
theorem dX8_size_120 : decode cX8_size 120 = .ok (.getfield 10, 3) := by decide +kernel
theorem dX8_size_123 : decode cX8_size 123 = .ok (.getfield 97, 3) := by decide +kernel
theorem dX8_size_126 : decode cX8_size 126 = .ok (.invokevirtual 125, 3) := by decide +kernel
theorem dX8_size_129 : decode cX8_size 129 = .ok (.invokestatic 128, 3) := by decide +kernel
theorem dX8_size_132 : decode cX8_size 132 = .ok (.ireturn, 1) := by decide +kernel
theorem dX8_size_133 : decode cX8_size 133 = .ok (.aload_n 0, 1) := by decide +kernel
theorem dX8_size_134 : decode cX8_size 134 = .ok (.getfield 10, 3) := by decide +kernel
theorem dX8_size_137 : decode cX8_size 137 = .ok (.getfield 97, 3) := by decide +kernel
theorem dX8_size_140 : decode cX8_size 140 = .ok (.invokevirtual 125, 3) := by decide +kernel
theorem dX8_size_143 : decode cX8_size 143 = .ok (.aload_n 0, 1) := by decide +kernel
theorem dX8_size_144 : decode cX8_size 144 = .ok (.getfield 10, 3) := by decide +kernel
theorem dX8_size_147 : decode cX8_size 147 = .ok (.getfield 97, 3) := by decide +kernel
theorem dX8_size_150 : decode cX8_size 150 = .ok (.getfield 134, 3) := by decide +kernel
theorem dX8_size_153 : decode cX8_size 153 = .ok (.iand, 1) := by decide +kernel
theorem dX8_size_154 : decode cX8_size 154 = .ok (.invokestatic 128, 3) := by decide +kernel
theorem dX8_size_157 : decode cX8_size 157 = .ok (.ireturn, 1) := by decide +kernel
theorem dX8_size_158 : decode cX8_size 158 = .ok (.aload_n 0, 1) := by decide +kernel
theorem dX8_size_159 : decode cX8_size 159 = .ok (.getfield 10, 3) := by decide +kernel
theorem dX8_size_162 : decode cX8_size 162 = .ok (.getfield 137, 3) := by decide +kernel
theorem dX8_size_165 : decode cX8_size 165 = .ok (.getfield 141, 3) := by decide +kernel
theorem dX8_size_168 : decode cX8_size 168 = .ok (.ireturn, 1) := by decide +kernel
theorem dX8_size_169 : decode cX8_size 169 = .ok (.aload_n 0, 1) := by decide +kernel
theorem dX8_size_170 : decode cX8_size 170 = .ok (.getfield 10, 3) := by decide +kernel
theorem dX8_size_173 : decode cX8_size 173 = .ok (.getfield 137, 3) := by decide +kernel
theorem dX8_size_176 : decode cX8_size 176 = .ok (.getfield 144, 3) := by decide +kernel
theorem dX8_size_179 : decode cX8_size 179 = .ok (.ireturn, 1) := by decide +kernel
theorem dX8_size_180 : decode cX8_size 180 = .ok (.aload_n 0, 1) := by decide +kernel
theorem dX8_size_181 : decode cX8_size 181 = .ok (.getfield 10, 3) := by decide +kernel
theorem dX8_size_184 : decode cX8_size 184 = .ok (.getfield 137, 3) := by decide +kernel
theorem dX8_size_187 : decode cX8_size 187 = .ok (.getfield 147, 3) := by decide +kernel
theorem dX8_size_190 : decode cX8_size 190 = .ok (.ireturn, 1) := by decide +kernel
theorem dX8_size_191 : decode cX8_size 191 = .ok (.aload_n 0, 1) := by decide +kernel
theorem dX8_size_192 : decode cX8_size 192 = .ok (.getfield 10, 3) := by decide +kernel
theorem dX8_size_195 : decode cX8_size 195 = .ok (.getfield 137, 3) := by decide +kernel
theorem dX8_size_198 : decode cX8_size 198 = .ok (.getfield 150, 3) := by decide +kernel
theorem dX8_size_201 : decode cX8_size 201 = .ok (.ireturn, 1) := by decide +kernel
theorem dX8_size_202 : decode cX8_size 202 = .ok (.aload_n 0, 1) := by decide +kernel
theorem dX8_size_203 : decode cX8_size 203 = .ok (.getfield 19, 3) := by decide +kernel
theorem dX8_size_206 : decode cX8_size 206 = .ok (.getfield 153, 3) := by decide +kernel
theorem dX8_size_209 : decode cX8_size 209 = .ok (.ireturn, 1) := by decide +kernel
theorem dX8_size_210 : decode cX8_size 210 = .ok (.new 154, 3) := by decide +kernel
theorem dX8_size_213 : decode cX8_size 213 = .ok (.dup, 1) := by decide +kernel
theorem dX8_size_214 : decode cX8_size 214 = .ok (.ldc 156, 2) := by decide +kernel
theorem dX8_size_216 : decode cX8_size 216 = .ok (.invokespecial 158, 3) := by decide +kernel
theorem dX8_size_219 : decode cX8_size 219 = .ok (.athrow, 1) := by decide +kernel
set_option maxRecDepth 20000 in
theorem ggX8_cell_X8_needCell : GoodIn wsX8_cell wsX8_needCell := goodIn_ca (goodIn_r _ [8, 9, 10, 3, 11, 12, 13, 14, 15, 16, 17, 64, 65, 66, 67, 68, 69, 70, 71, 72, 73, 74, 75, 76, 77, 78, 79, 80, 81, 82, 83, 84] (by decide +kernel) (by decide +kernel)) (goodIn_sub (fun _ h => List.mem_cons_of_mem _ (List.mem_append_right _ h)) (by decide +kernel))
set_option maxRecDepth 20000 in
theorem gX8_cell_X8_needCell : GoodIn wsX8_cell (wsV RX8 161 RX8 yX8_needCell wsX8_needCell) := goodIn_app (goodIn_of _ (by decide +kernel)) ggX8_cell_X8_needCell
set_option maxRecDepth 20000 in
theorem ggX8_cell_X1_isRiver : GoodIn wsX8_cell wsX1_isRiver := goodIn_r _ [21, 22, 79, 80, 81, 82, 83, 84] (by decide +kernel) (by decide +kernel)
set_option maxRecDepth 20000 in
theorem gX8_cell_X1_isRiver : GoodIn wsX8_cell (wsV RX8 164 RX1 yX1_isRiver wsX1_isRiver) := goodIn_app (goodIn_of _ (by decide +kernel)) ggX8_cell_X1_isRiver
