set_option maxRecDepth 20000 in
theorem ggX11_init_X5_init : GoodIn wsX11_init wsX5_init := goodIn_r _ [38, 39, 2, 3, 40, 41, 42, 43, 44, 45, 46, 391, 392] rfl (by decide +kernel)
set_option maxRecDepth 20000 in
theorem gX11_init_X5_init : GoodIn wsX11_init (wsX5_init) := ggX11_init_X5_init
set_option maxRecDepth 20000 in
theorem ggX11_init_X1_init : GoodIn wsX11_init wsX1_init := goodIn_r _ [49, 50, 2, 3, 51, 52, 53, 54, 55, 56, 57, 58, 59, 60, 61, 62, 63, 64, 65, 66, 67, 401, 402, 403, 404, 405, 406, 458, 459, 460, 461] rfl (by decide +kernel)
set_option maxRecDepth 20000 in
theorem gX11_init_X1_init : GoodIn wsX11_init (wsX1_init) := ggX11_init_X1_init
set_option maxRecDepth 20000 in
theorem ggX11_init_X6_init : GoodIn wsX11_init wsX6_init := goodIn_r _ [70, 71, 2, 3, 72, 9, 10, 73, 74, 75, 76, 77, 78, 79, 80, 81, 48, 49, 50, 51, 52, 53, 54, 55, 56, 57, 58, 59, 60, 61, 62, 63, 64, 65, 66, 67, 401, 402, 403, 404, 405, 406, 407, 408, 409, 410, 411, 412, 413, 414, 458, 459, 460, 461] rfl (by decide +kernel)
set_option maxRecDepth 20000 in
theorem gX11_init_X6_init : GoodIn wsX11_init (wsX6_init) := ggX11_init_X6_init
set_option maxRecDepth 20000 in
theorem ggX11_init_X7_init : GoodIn wsX11_init wsX7_init := goodIn_r _ [84, 85, 2, 3, 86, 87, 88, 89, 5, 6, 90, 37, 38, 39, 40, 41, 42, 43, 44, 45, 46, 415, 416, 417, 391, 392] rfl (by decide +kernel)
set_option maxRecDepth 20000 in
theorem gX11_init_X7_init : GoodIn wsX11_init (wsX7_init) := ggX11_init_X7_init
set_option maxRecDepth 20000 in
theorem ggX11_init_X8_init : GoodIn wsX11_init wsX8_init := goodIn_r _ [93, 94, 2, 3, 95, 5, 6, 96, 51, 97, 98, 99, 100, 101, 102, 103, 104, 105, 106, 37, 38, 39, 40, 41, 42, 43, 44, 45, 46, 391, 392, 418, 419, 420, 421, 422, 423, 424, 425, 426, 427] rfl (by decide +kernel)
set_option maxRecDepth 20000 in
theorem gX11_init_X8_init : GoodIn wsX11_init (wsX8_init) := ggX11_init_X8_init
set_option maxRecDepth 20000 in
theorem ggX11_init_X2_init : GoodIn wsX11_init wsX2_init := goodIn_r _ [109, 110, 2, 3, 111, 112, 113, 114, 115, 116, 117, 118, 119, 120, 121, 122, 123, 124, 125, 126, 127, 128, 129, 130, 131, 132, 42, 43, 44, 133, 134, 135, 136, 137, 138, 139, 140, 141, 142, 143, 144, 462, 463, 428, 429, 430, 431, 432, 433, 434, 435, 436, 437, 438, 439, 440, 464, 465, 466, 467, 468] rfl (by decide +kernel)
set_option maxRecDepth 20000 in
theorem gX11_init_X2_init : GoodIn wsX11_init (wsX2_init) := ggX11_init_X2_init
set_option maxRecDepth 20000 in
theorem ggX11_init_X9_init : GoodIn wsX11_init wsX9_init := goodIn_r _ [146, 147, 2, 3, 148, 149, 150, 151, 152, 153, 154, 155, 156, 441, 442, 443, 444, 445] rfl (by decide +kernel)
set_option maxRecDepth 20000 in
theorem gX11_init_X9_init_n61 : GoodIn wsX11_init (wsX9_init) := ggX11_init_X9_init
set_option maxRecDepth 20000 in
theorem ggX11_init_X0_init : GoodIn wsX11_init wsX0_init := goodIn_r _ [159, 160, 2, 3, 161, 162, 51, 163, 59, 60, 164, 165, 166, 148, 167, 168, 169, 170, 171, 172, 173, 61, 62, 63, 64, 65, 66, 67, 446, 447, 448, 449, 450, 451, 452, 453, 454, 455, 456, 457, 458, 459, 460, 461] rfl (by decide +kernel)
set_option maxRecDepth 20000 in
theorem gX11_init_X0_init : GoodIn wsX11_init (wsX0_init) := ggX11_init_X0_init
set_option maxRecDepth 20000 in
theorem ggX11_init_X6_readText : GoodIn wsX11_init wsX6_readText := goodIn_ca (goodIn_r _ [177, 73, 74, 75, 76, 77, 178, 179, 180, 181, 10, 182, 52, 183, 184, 185, 186, 53, 55, 57, 58, 187, 188, 189, 190, 191, 192, 193, 60, 194, 65, 66, 67, 195, 196, 197, 14, 198, 80, 199, 78, 200, 201, 202, 6, 203, 40, 46, 204, 205, 206, 207, 208, 209, 210, 211, 212, 213, 214, 64, 215, 216, 217, 218, 219, 220, 221, 222, 223, 224, 225, 226, 227, 228, 229, 230, 231, 232, 233, 234, 235, 236, 237, 238, 239, 240, 241, 242, 243, 244, 245, 246, 247, 248, 249, 250, 251, 252, 253, 254, 255, 256, 257, 258, 259, 260, 261, 262, 263, 264, 265, 266, 267, 268, 269, 270, 271, 272, 273, 274, 275, 276, 277, 278, 279, 280, 281, 282, 283, 284, 285, 286, 287, 288, 289, 290, 291, 292, 293, 294, 295, 296, 79, 297, 298, 299, 300, 301, 302, 303, 304, 305, 306, 307, 308, 309, 310, 311, 312, 313, 314, 315, 316, 317, 318, 319, 320, 321, 407, 408, 409, 410, 411, 412, 413, 414, 401, 402, 403, 404, 405, 406, 458, 459, 460, 461, 391, 392, 469, 470] rfl (by decide +kernel)) (goodIn_sub (fun _ h => List.mem_cons_of_mem _ (List.mem_append_right _ h)) (by decide +kernel))
set_option maxRecDepth 20000 in
theorem gX11_init_X6_readText : GoodIn wsX11_init (wsV RX11 75 RX6 yX6_readText wsX6_readText) := goodIn_app (goodIn_of _ (by decide +kernel)) ggX11_init_X6_readText
set_option maxRecDepth 20000 in
theorem ggX11_init_X11_startAnew : GoodIn wsX11_init wsX11_startAnew := goodIn_ca (goodIn_r _ [326, 11, 15, 327, 19, 23, 27, 31, 328, 35, 329, 330, 331, 10, 332, 52, 183, 184, 185, 186, 53, 55, 57, 58, 333, 334, 335, 60, 336, 65, 337, 192, 193, 194, 66, 67, 338, 339, 340, 341, 64, 342, 212, 213, 214, 343, 344, 345, 346, 56, 347, 348, 349, 18, 350, 88, 89, 351, 352, 353, 22, 354, 102, 101, 355, 356, 357, 358, 103, 359, 360, 361, 362, 96, 363, 98, 364, 365, 366, 367, 99, 368, 188, 189, 190, 369, 370, 371, 26, 372, 114, 373, 115, 116, 125, 117, 118, 119, 120, 121, 122, 123, 124, 374, 375, 376, 377, 378, 379, 380, 34, 381, 167, 382, 383, 384, 385, 386, 387, 388, 162, 389, 169, 390, 393, 394, 395, 396, 397, 398, 399, 400, 407, 408, 409, 410, 411, 412, 413, 414, 441, 442, 443, 444, 445, 401, 402, 403, 404, 405, 406, 458, 459, 460, 461, 415, 416, 417, 418, 419, 420, 421, 422, 423, 424, 425, 426, 427, 391, 392, 428, 429, 430, 431, 432, 433, 434, 435, 436, 437, 438, 439, 440, 462, 463, 446, 447, 448, 449, 450, 451, 452, 453, 454, 455, 456, 457] rfl (by decide +kernel)) (goodIn_sub (fun _ h => List.mem_cons_of_mem _ (List.mem_append_right _ h)) (by decide +kernel))
set_option maxRecDepth 20000 in
theorem gX11_init_X11_startAnew : GoodIn wsX11_init (wsV RX11 79 RX11 yX11_startAnew wsX11_startAnew) := goodIn_app (goodIn_of _ (by decide +kernel)) ggX11_init_X11_startAnew
theorem dX11_init_0 : decode cX11_init 0 = .ok (.aload_n 0, 1) := by decide +kernel
theorem dX11_init_1 : decode cX11_init 1 = .ok (.invokespecial 1, 3) := by decide +kernel
theorem dX11_init_4 : decode cX11_init 4 = .ok (.aload_n 0, 1) := by decide +kernel
theorem dX11_init_5 : decode cX11_init 5 = .ok (.new 7, 3) := by decide +kernel
theorem dX11_init_8 : decode cX11_init 8 = .ok (.dup, 1) := by decide +kernel
theorem dX11_init_9 : decode cX11_init 9 = .ok (.sipush 700, 3) := by decide +kernel
theorem dX11_init_12 : decode cX11_init 12 = .ok (.invokespecial 11, 3) := by decide +kernel
theorem dX11_init_15 : decode cX11_init 15 = .ok (.putfield 14, 3) := by decide +kernel
theorem dX11_init_18 : decode cX11_init 18 = .ok (.aload_n 0, 1) := by decide +kernel
theorem dX11_init_19 : decode cX11_init 19 = .ok (.new 18, 3) := by decide +kernel
theorem dX11_init_22 : decode cX11_init 22 = .ok (.dup, 1) := by decide +kernel
theorem dX11_init_23 : decode cX11_init 23 = .ok (.invokespecial 20, 3) := by decide +kernel
theorem dX11_init_26 : decode cX11_init 26 = .ok (.putfield 21, 3) := by decide +kernel
theorem dX11_init_29 : decode cX11_init 29 = .ok (.aload_n 0, 1) := by decide +kernel
theorem dX11_init_30 : decode cX11_init 30 = .ok (.new 25, 3) := by decide +kernel
theorem dX11_init_33 : decode cX11_init 33 = .ok (.dup, 1) := by decide +kernel
theorem dX11_init_34 : decode cX11_init 34 = .ok (.aload_n 0, 1) := by decide +kernel
theorem dX11_init_35 : decode cX11_init 35 = .ok (.getfield 14, 3) := by decide +kernel
theorem dX11_init_38 : decode cX11_init 38 = .ok (.invokespecial 27, 3) := by decide +kernel
theorem dX11_init_41 : decode cX11_init 41 = .ok (.putfield 30, 3) := by decide +kernel
theorem dX11_init_44 : decode cX11_init 44 = .ok (.aload_n 0, 1) := by decide +kernel
theorem dX11_init_45 : decode cX11_init 45 = .ok (.new 34, 3) := by decide +kernel
theorem dX11_init_48 : decode cX11_init 48 = .ok (.dup, 1) := by decide +kernel
theorem dX11_init_49 : decode cX11_init 49 = .ok (.invokespecial 36, 3) := by decide +kernel
theorem dX11_init_52 : decode cX11_init 52 = .ok (.putfield 37, 3) := by decide +kernel
theorem dX11_init_55 : decode cX11_init 55 = .ok (.aload_n 0, 1) := by decide +kernel
theorem dX11_init_56 : decode cX11_init 56 = .ok (.new 41, 3) := by decide +kernel
theorem dX11_init_59 : decode cX11_init 59 = .ok (.dup, 1) := by decide +kernel
theorem dX11_init_60 : decode cX11_init 60 = .ok (.aload_n 0, 1) := by decide +kernel
theorem dX11_init_61 : decode cX11_init 61 = .ok (.getfield 21, 3) := by decide +kernel
theorem dX11_init_64 : decode cX11_init 64 = .ok (.aload_n 0, 1) := by decide +kernel
theorem dX11_init_65 : decode cX11_init 65 = .ok (.getfield 37, 3) := by decide +kernel
theorem dX11_init_68 : decode cX11_init 68 = .ok (.invokespecial 43, 3) := by decide +kernel
theorem dX11_init_71 : decode cX11_init 71 = .ok (.putfield 46, 3) := by decide +kernel
theorem dX11_init_74 : decode cX11_init 74 = .ok (.aload_n 0, 1) := by decide +kernel
theorem dX11_init_75 : decode cX11_init 75 = .ok (.new 50, 3) := by decide +kernel
theorem dX11_init_78 : decode cX11_init 78 = .ok (.dup, 1) := by decide +kernel
theorem dX11_init_79 : decode cX11_init 79 = .ok (.aload_n 0, 1) := by decide +kernel
theorem dX11_init_80 : decode cX11_init 80 = .ok (.getfield 21, 3) := by decide +kernel
theorem dX11_init_83 : decode cX11_init 83 = .ok (.aload_n 0, 1) := by decide +kernel
theorem dX11_init_84 : decode cX11_init 84 = .ok (.getfield 46, 3) := by decide +kernel
theorem dX11_init_87 : decode cX11_init 87 = .ok (.invokespecial 52, 3) := by decide +kernel
theorem dX11_init_90 : decode cX11_init 90 = .ok (.putfield 55, 3) := by decide +kernel
theorem dX11_init_93 : decode cX11_init 93 = .ok (.aload_n 0, 1) := by decide +kernel
theorem dX11_init_94 : decode cX11_init 94 = .ok (.new 59, 3) := by decide +kernel
theorem dX11_init_97 : decode cX11_init 97 = .ok (.dup, 1) := by decide +kernel
theorem dX11_init_98 : decode cX11_init 98 = .ok (.invokespecial 61, 3) := by decide +kernel
theorem dX11_init_101 : decode cX11_init 101 = .ok (.putfield 62, 3) := by decide +kernel
theorem dX11_init_104 : decode cX11_init 104 = .ok (.aload_n 0, 1) := by decide +kernel
theorem dX11_init_105 : decode cX11_init 105 = .ok (.new 66, 3) := by decide +kernel
theorem dX11_init_108 : decode cX11_init 108 = .ok (.dup, 1) := by decide +kernel
theorem dX11_init_109 : decode cX11_init 109 = .ok (.aload_n 0, 1) := by decide +kernel
theorem dX11_init_110 : decode cX11_init 110 = .ok (.getfield 21, 3) := by decide +kernel
theorem dX11_init_113 : decode cX11_init 113 = .ok (.aload_n 0, 1) := by decide +kernel
theorem dX11_init_114 : decode cX11_init 114 = .ok (.getfield 62, 3) := by decide +kernel
theorem dX11_init_117 : decode cX11_init 117 = .ok (.invokespecial 68, 3) := by decide +kernel
theorem dX11_init_120 : decode cX11_init 120 = .ok (.putfield 71, 3) := by decide +kernel
theorem dX11_init_123 : decode cX11_init 123 = .ok (.aload_n 0, 1) := by decide +kernel
theorem dX11_init_124 : decode cX11_init 124 = .ok (.getfield 30, 3) := by decide +kernel
theorem dX11_init_127 : decode cX11_init 127 = .ok (.invokevirtual 75, 3) := by decide +kernel
theorem dX11_init_130 : decode cX11_init 130 = .ok (.pop, 1) := by decide +kernel
theorem dX11_init_131 : decode cX11_init 131 = .ok (.aload_n 0, 1) := by decide +kernel
theorem dX11_init_132 : decode cX11_init 132 = .ok (.invokevirtual 79, 3) := by decide +kernel
theorem dX11_init_135 : decode cX11_init 135 = .ok (.return_, 1) := by decide +kernel
