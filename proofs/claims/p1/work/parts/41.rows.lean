theorem dX3_begin_0 : decode cX3_begin 0 = .ok (.aload_n 0, 1) := by decide +kernel
theorem dX3_begin_1 : decode cX3_begin 1 = .ok (.lload_n 1, 1) := by decide +kernel
theorem dX3_begin_2 : decode cX3_begin 2 = .ok (.putfield 9, 3) := by decide +kernel
theorem dX3_begin_5 : decode cX3_begin 5 = .ok (.aload_n 0, 1) := by decide +kernel
theorem dX3_begin_6 : decode cX3_begin 6 = .ok (.lconst 0, 1) := by decide +kernel
theorem dX3_begin_7 : decode cX3_begin 7 = .ok (.putfield 15, 3) := by decide +kernel
theorem dX3_begin_10 : decode cX3_begin 10 = .ok (.aload_n 0, 1) := by decide +kernel
theorem dX3_begin_11 : decode cX3_begin 11 = .ok (.lconst 0, 1) := by decide +kernel
theorem dX3_begin_12 : decode cX3_begin 12 = .ok (.putfield 18, 3) := by decide +kernel
theorem dX3_begin_15 : decode cX3_begin 15 = .ok (.aload_n 0, 1) := by decide +kernel
theorem dX3_begin_16 : decode cX3_begin 16 = .ok (.iload_n 3, 1) := by decide +kernel
theorem dX3_begin_17 : decode cX3_begin 17 = .ok (.putfield 21, 3) := by decide +kernel
theorem dX3_begin_20 : decode cX3_begin 20 = .ok (.aload_n 0, 1) := by decide +kernel
theorem dX3_begin_21 : decode cX3_begin 21 = .ok (.iload_n 3, 1) := by decide +kernel
theorem dX3_begin_22 : decode cX3_begin 22 = .ok (.putfield 25, 3) := by decide +kernel
theorem dX3_begin_25 : decode cX3_begin 25 = .ok (.return_, 1) := by decide +kernel
theorem dX4_isFull_0 : decode cX4_isFull 0 = .ok (.aload_n 0, 1) := by decide +kernel
theorem dX4_isFull_1 : decode cX4_isFull 1 = .ok (.getfield 9, 3) := by decide +kernel
theorem dX4_isFull_4 : decode cX4_isFull 4 = .ok (.aload_n 0, 1) := by decide +kernel
theorem dX4_isFull_5 : decode cX4_isFull 5 = .ok (.getfield 23, 3) := by decide +kernel
theorem dX4_isFull_8 : decode cX4_isFull 8 = .ok (.arraylength, 1) := by decide +kernel
theorem dX4_isFull_9 : decode cX4_isFull 9 = .ok (.if_icmp .lt 7, 3) := by decide +kernel
theorem dX4_isFull_16 : decode cX4_isFull 16 = .ok (.iconst 0, 1) := by decide +kernel
theorem dX4_isFull_17 : decode cX4_isFull 17 = .ok (.ireturn, 1) := by decide +kernel
theorem dX4_flowAt_0 : decode cX4_flowAt 0 = .ok (.aload_n 0, 1) := by decide +kernel
theorem dX4_flowAt_1 : decode cX4_flowAt 1 = .ok (.getfield 23, 3) := by decide +kernel
theorem dX4_flowAt_4 : decode cX4_flowAt 4 = .ok (.iload_n 1, 1) := by decide +kernel
theorem dX4_flowAt_5 : decode cX4_flowAt 5 = .ok (.ifCond .lt 16, 3) := by decide +kernel
theorem dX4_flowAt_8 : decode cX4_flowAt 8 = .ok (.iload_n 1, 1) := by decide +kernel
theorem dX4_flowAt_9 : decode cX4_flowAt 9 = .ok (.aload_n 0, 1) := by decide +kernel
theorem dX4_flowAt_10 : decode cX4_flowAt 10 = .ok (.getfield 23, 3) := by decide +kernel
theorem dX4_flowAt_13 : decode cX4_flowAt 13 = .ok (.arraylength, 1) := by decide +kernel
theorem dX4_flowAt_14 : decode cX4_flowAt 14 = .ok (.if_icmp .ge 7, 3) := by decide +kernel
theorem dX4_flowAt_17 : decode cX4_flowAt 17 = .ok (.iload_n 1, 1) := by decide +kernel
theorem dX4_flowAt_18 : decode cX4_flowAt 18 = .ok (.goto 4, 3) := by decide +kernel
theorem dX4_flowAt_22 : decode cX4_flowAt 22 = .ok (.aaload, 1) := by decide +kernel
theorem dX4_flowAt_23 : decode cX4_flowAt 23 = .ok (.areturn, 1) := by decide +kernel
set_option maxRecDepth 20000 in
theorem ggX4_addFlow_X4_flowAt : GoodIn wsX4_addFlow wsX4_flowAt := goodIn_r _ [11, 2, 22, 23] (by decide +kernel) (by decide +kernel)
set_option maxRecDepth 20000 in
theorem gX4_addFlow_X4_flowAt : GoodIn wsX4_addFlow (wsV RX4 32 RX4 yX4_flowAt wsX4_flowAt) := goodIn_app (goodIn_of _ (by decide +kernel)) ggX4_addFlow_X4_flowAt
set_option maxRecDepth 20000 in
theorem ggX4_addFlow_X3_begin : GoodIn wsX4_addFlow wsX3_begin := goodIn_r _ [16, 17, 18, 19, 20, 21, 24, 25, 26, 27, 28] (by decide +kernel) (by decide +kernel)
set_option maxRecDepth 20000 in
theorem gX4_addFlow_X3_begin : GoodIn wsX4_addFlow (wsV RX4 36 RX3 yX3_begin wsX3_begin) := goodIn_app (goodIn_of _ (by decide +kernel)) ggX4_addFlow_X3_begin
theorem dX4_addFlow_0 : decode cX4_addFlow 0 = .ok (.aload_n 0, 1) := by decide +kernel
theorem dX4_addFlow_1 : decode cX4_addFlow 1 = .ok (.aload_n 0, 1) := by decide +kernel
theorem dX4_addFlow_2 : decode cX4_addFlow 2 = .ok (.getfield 9, 3) := by decide +kernel
theorem dX4_addFlow_5 : decode cX4_addFlow 5 = .ok (.invokevirtual 32, 3) := by decide +kernel
theorem dX4_addFlow_8 : decode cX4_addFlow 8 = .ok (.astore 4, 2) := by decide +kernel
theorem dX4_addFlow_10 : decode cX4_addFlow 10 = .ok (.aload 4, 2) := by decide +kernel
theorem dX4_addFlow_12 : decode cX4_addFlow 12 = .ok (.lload_n 1, 1) := by decide +kernel
theorem dX4_addFlow_13 : decode cX4_addFlow 13 = .ok (.iload_n 3, 1) := by decide +kernel
theorem dX4_addFlow_14 : decode cX4_addFlow 14 = .ok (.invokevirtual 36, 3) := by decide +kernel
theorem dX4_addFlow_17 : decode cX4_addFlow 17 = .ok (.aload_n 0, 1) := by decide +kernel
theorem dX4_addFlow_18 : decode cX4_addFlow 18 = .ok (.aload_n 0, 1) := by decide +kernel
theorem dX4_addFlow_19 : decode cX4_addFlow 19 = .ok (.getfield 9, 3) := by decide +kernel
theorem dX4_addFlow_22 : decode cX4_addFlow 22 = .ok (.iconst 1, 1) := by decide +kernel
theorem dX4_addFlow_23 : decode cX4_addFlow 23 = .ok (.iadd, 1) := by decide +kernel
theorem dX4_addFlow_24 : decode cX4_addFlow 24 = .ok (.aload_n 0, 1) := by decide +kernel
theorem dX4_addFlow_25 : decode cX4_addFlow 25 = .ok (.getfield 23, 3) := by decide +kernel
theorem dX4_addFlow_28 : decode cX4_addFlow 28 = .ok (.arraylength, 1) := by decide +kernel
theorem dX4_addFlow_29 : decode cX4_addFlow 29 = .ok (.invokestatic 40, 3) := by decide +kernel
theorem dX4_addFlow_32 : decode cX4_addFlow 32 = .ok (.putfield 9, 3) := by decide +kernel
theorem dX4_addFlow_35 : decode cX4_addFlow 35 = .ok (.aload 4, 2) := by decide +kernel
theorem dX4_addFlow_37 : decode cX4_addFlow 37 = .ok (.areturn, 1) := by decide +kernel
theorem dX5_put_0 : decode cX5_put 0 = .ok (.iload_n 3, 1) := by decide +kernel
theorem dX5_put_1 : decode cX5_put 1 = .ok (.iconst 1, 1) := by decide +kernel
theorem dX5_put_2 : decode cX5_put 2 = .ok (.isub, 1) := by decide +kernel
theorem dX5_put_3 : decode cX5_put 3 = .ok (.istore 4, 2) := by decide +kernel
theorem dX5_put_5 : decode cX5_put 5 = .ok (.iload 4, 2) := by decide +kernel
theorem dX5_put_7 : decode cX5_put 7 = .ok (.ifCond .lt 49, 3) := by decide +kernel
theorem dX5_put_10 : decode cX5_put 10 = .ok (.aload_n 0, 1) := by decide +kernel
theorem dX5_put_11 : decode cX5_put 11 = .ok (.getfield 9, 3) := by decide +kernel
theorem dX5_put_14 : decode cX5_put 14 = .ok (.aload_n 0, 1) := by decide +kernel
theorem dX5_put_15 : decode cX5_put 15 = .ok (.getfield 21, 3) := by decide +kernel
theorem dX5_put_18 : decode cX5_put 18 = .ok (.arraylength, 1) := by decide +kernel
theorem dX5_put_19 : decode cX5_put 19 = .ok (.if_icmp .ge 31, 3) := by decide +kernel
theorem dX5_put_22 : decode cX5_put 22 = .ok (.aload_n 0, 1) := by decide +kernel
theorem dX5_put_23 : decode cX5_put 23 = .ok (.getfield 21, 3) := by decide +kernel
theorem dX5_put_26 : decode cX5_put 26 = .ok (.aload_n 0, 1) := by decide +kernel
theorem dX5_put_27 : decode cX5_put 27 = .ok (.getfield 9, 3) := by decide +kernel
theorem dX5_put_30 : decode cX5_put 30 = .ok (.lload_n 1, 1) := by decide +kernel
theorem dX5_put_31 : decode cX5_put 31 = .ok (.bipush 8, 2) := by decide +kernel
theorem dX5_put_33 : decode cX5_put 33 = .ok (.iload 4, 2) := by decide +kernel
theorem dX5_put_35 : decode cX5_put 35 = .ok (.imul, 1) := by decide +kernel
theorem dX5_put_36 : decode cX5_put 36 = .ok (.lshr, 1) := by decide +kernel
theorem dX5_put_37 : decode cX5_put 37 = .ok (.l2i, 1) := by decide +kernel
theorem dX5_put_38 : decode cX5_put 38 = .ok (.i2b, 1) := by decide +kernel
theorem dX5_put_39 : decode cX5_put 39 = .ok (.bastore, 1) := by decide +kernel
theorem dX5_put_40 : decode cX5_put 40 = .ok (.aload_n 0, 1) := by decide +kernel
theorem dX5_put_41 : decode cX5_put 41 = .ok (.dup, 1) := by decide +kernel
theorem dX5_put_42 : decode cX5_put 42 = .ok (.getfield 9, 3) := by decide +kernel
theorem dX5_put_45 : decode cX5_put 45 = .ok (.iconst 1, 1) := by decide +kernel
theorem dX5_put_46 : decode cX5_put 46 = .ok (.iadd, 1) := by decide +kernel
theorem dX5_put_47 : decode cX5_put 47 = .ok (.putfield 9, 3) := by decide +kernel
theorem dX5_put_50 : decode cX5_put 50 = .ok (.iinc 4 (-1), 3) := by decide +kernel
theorem dX5_put_53 : decode cX5_put 53 = .ok (.goto (-48), 3) := by decide +kernel
theorem dX5_put_56 : decode cX5_put 56 = .ok (.return_, 1) := by decide +kernel
set_option maxRecDepth 20000 in
theorem ggX11_appendInput_X5_put : GoodIn wsX11_appendInput wsX5_put := goodIn_ca (goodIn_r _ [7, 8, 9, 18, 19] (by decide +kernel) (by decide +kernel)) (goodIn_sub (fun _ h => List.mem_cons_of_mem _ (List.mem_append_right _ h)) (by decide +kernel))
set_option maxRecDepth 20000 in
theorem gX11_appendInput_X5_put : GoodIn wsX11_appendInput (wsV RX11 100 RX5 yX5_put wsX5_put) := goodIn_app (goodIn_of _ (by decide +kernel)) ggX11_appendInput_X5_put
theorem dX11_appendInput_0 : decode cX11_appendInput 0 = .ok (.aload_n 0, 1) := by decide +kernel
theorem dX11_appendInput_1 : decode cX11_appendInput 1 = .ok (.getfield 14, 3) := by decide +kernel
theorem dX11_appendInput_4 : decode cX11_appendInput 4 = .ok (.getfield 97, 3) := by decide +kernel
theorem dX11_appendInput_7 : decode cX11_appendInput 7 = .ok (.bipush 20, 2) := by decide +kernel
theorem dX11_appendInput_9 : decode cX11_appendInput 9 = .ok (.iadd, 1) := by decide +kernel
theorem dX11_appendInput_10 : decode cX11_appendInput 10 = .ok (.sipush 700, 3) := by decide +kernel
theorem dX11_appendInput_13 : decode cX11_appendInput 13 = .ok (.if_icmp .le 5, 3) := by decide +kernel
theorem dX11_appendInput_18 : decode cX11_appendInput 18 = .ok (.aload_n 0, 1) := by decide +kernel
theorem dX11_appendInput_19 : decode cX11_appendInput 19 = .ok (.getfield 14, 3) := by decide +kernel
theorem dX11_appendInput_22 : decode cX11_appendInput 22 = .ok (.iload_n 1, 1) := by decide +kernel
theorem dX11_appendInput_23 : decode cX11_appendInput 23 = .ok (.i2l, 1) := by decide +kernel
theorem dX11_appendInput_24 : decode cX11_appendInput 24 = .ok (.iconst 4, 1) := by decide +kernel
theorem dX11_appendInput_25 : decode cX11_appendInput 25 = .ok (.invokevirtual 100, 3) := by decide +kernel
theorem dX11_appendInput_28 : decode cX11_appendInput 28 = .ok (.aload_n 0, 1) := by decide +kernel
theorem dX11_appendInput_29 : decode cX11_appendInput 29 = .ok (.getfield 14, 3) := by decide +kernel
theorem dX11_appendInput_32 : decode cX11_appendInput 32 = .ok (.iload_n 2, 1) := by decide +kernel
theorem dX11_appendInput_33 : decode cX11_appendInput 33 = .ok (.i2l, 1) := by decide +kernel
theorem dX11_appendInput_34 : decode cX11_appendInput 34 = .ok (.iconst 4, 1) := by decide +kernel
theorem dX11_appendInput_35 : decode cX11_appendInput 35 = .ok (.invokevirtual 100, 3) := by decide +kernel
theorem dX11_appendInput_38 : decode cX11_appendInput 38 = .ok (.aload_n 0, 1) := by decide +kernel
theorem dX11_appendInput_39 : decode cX11_appendInput 39 = .ok (.getfield 14, 3) := by decide +kernel
theorem dX11_appendInput_42 : decode cX11_appendInput 42 = .ok (.iload_n 3, 1) := by decide +kernel
theorem dX11_appendInput_43 : decode cX11_appendInput 43 = .ok (.i2l, 1) := by decide +kernel
theorem dX11_appendInput_44 : decode cX11_appendInput 44 = .ok (.iconst 4, 1) := by decide +kernel
theorem dX11_appendInput_45 : decode cX11_appendInput 45 = .ok (.invokevirtual 100, 3) := by decide +kernel
theorem dX11_appendInput_48 : decode cX11_appendInput 48 = .ok (.aload_n 0, 1) := by decide +kernel
theorem dX11_appendInput_49 : decode cX11_appendInput 49 = .ok (.getfield 14, 3) := by decide +kernel
theorem dX11_appendInput_52 : decode cX11_appendInput 52 = .ok (.iload 4, 2) := by decide +kernel
theorem dX11_appendInput_54 : decode cX11_appendInput 54 = .ok (.i2l, 1) := by decide +kernel
theorem dX11_appendInput_55 : decode cX11_appendInput 55 = .ok (.iconst 4, 1) := by decide +kernel
theorem dX11_appendInput_56 : decode cX11_appendInput 56 = .ok (.invokevirtual 100, 3) := by decide +kernel
theorem dX11_appendInput_59 : decode cX11_appendInput 59 = .ok (.aload_n 0, 1) := by decide +kernel
theorem dX11_appendInput_60 : decode cX11_appendInput 60 = .ok (.getfield 14, 3) := by decide +kernel
theorem dX11_appendInput_63 : decode cX11_appendInput 63 = .ok (.iload 5, 2) := by decide +kernel
theorem dX11_appendInput_65 : decode cX11_appendInput 65 = .ok (.i2l, 1) := by decide +kernel
theorem dX11_appendInput_66 : decode cX11_appendInput 66 = .ok (.iconst 4, 1) := by decide +kernel
theorem dX11_appendInput_67 : decode cX11_appendInput 67 = .ok (.invokevirtual 100, 3) := by decide +kernel
theorem dX11_appendInput_70 : decode cX11_appendInput 70 = .ok (.aload_n 0, 1) := by decide +kernel
theorem dX11_appendInput_71 : decode cX11_appendInput 71 = .ok (.getfield 14, 3) := by decide +kernel
theorem dX11_appendInput_74 : decode cX11_appendInput 74 = .ok (.getfield 97, 3) := by decide +kernel
theorem dX11_appendInput_77 : decode cX11_appendInput 77 = .ok (.ireturn, 1) := by decide +kernel
set_option maxRecDepth 20000 in
theorem ggX11_load_X6_readText : GoodIn wsX11_load wsX6_readText := goodIn_ca (goodIn_r _ [8, 9, 10, 11, 12, 13, 14, 15, 16, 17, 18, 19, 20, 21, 22, 23, 24, 25, 26, 27, 28, 29, 30, 31, 32, 33, 34, 35, 36, 37, 38, 39, 40, 41, 42, 43, 7, 44, 45, 46, 47, 48, 49, 50, 51, 52, 53, 54, 55, 56, 57, 58, 59, 60, 61, 62, 63, 64, 65, 66, 67, 68, 69, 70, 71, 72, 73, 74, 75, 76, 77, 78, 79, 80, 81, 82, 83, 84, 85, 86, 87, 88, 89, 90, 91, 92, 93, 94, 95, 96, 97, 98, 99, 100, 101, 102, 103, 104, 105, 106, 107, 108, 109, 110, 111, 112, 113, 114, 115, 116, 117, 118, 119, 120, 121, 122, 123, 124, 125, 126, 127, 128, 129, 130, 131, 132, 133, 134, 135, 136, 137, 138, 139, 140, 141, 142, 143, 144, 145, 146, 147, 148, 149, 150, 151, 152, 153, 154, 155, 156, 157, 158, 159, 160, 161, 162, 163, 164, 165, 166, 167, 168, 169, 170, 171, 172, 173, 174, 288, 289, 290, 291, 292, 293, 294, 295, 296, 297, 298, 299, 300, 301, 302, 303, 304, 305, 286, 287, 306, 307] (by decide +kernel) (by decide +kernel)) (goodIn_sub (fun _ h => List.mem_cons_of_mem _ (List.mem_append_right _ h)) (by decide +kernel))
set_option maxRecDepth 20000 in
theorem gX11_load_X6_readText : GoodIn wsX11_load (wsV RX11 75 RX6 yX6_readText wsX6_readText) := goodIn_app (goodIn_of _ (by decide +kernel)) ggX11_load_X6_readText
set_option maxRecDepth 20000 in
theorem ggX11_load_X11_startAnew : GoodIn wsX11_load wsX11_startAnew := goodIn_ca (goodIn_r _ [179, 180, 1, 181, 182, 183, 184, 185, 186, 187, 188, 189, 190, 18, 191, 20, 21, 22, 23, 24, 25, 26, 27, 28, 192, 193, 194, 36, 195, 38, 196, 34, 35, 37, 39, 40, 197, 198, 199, 200, 66, 201, 63, 64, 65, 202, 203, 204, 205, 206, 207, 208, 209, 210, 211, 212, 213, 214, 215, 216, 217, 218, 219, 220, 221, 222, 223, 224, 225, 226, 227, 228, 229, 230, 231, 232, 233, 234, 235, 236, 237, 238, 30, 31, 32, 239, 240, 241, 242, 243, 244, 245, 246, 247, 248, 249, 250, 251, 252, 253, 254, 255, 256, 257, 258, 259, 260, 261, 262, 263, 264, 265, 266, 267, 268, 269, 270, 271, 272, 273, 274, 275, 276, 277, 278, 279, 280, 281, 282, 283, 284, 285, 288, 289, 290, 291, 292, 293, 294, 295, 308, 309, 310, 311, 312, 296, 297, 298, 299, 300, 301, 302, 303, 304, 305, 313, 314, 315, 316, 317, 318, 319, 320, 321, 322, 323, 324, 325, 286, 287, 326, 327, 328, 329, 330, 331, 332, 333, 334, 335, 336, 337, 338, 339, 340, 341, 342, 343, 344, 345, 346, 347, 348, 349, 350, 351, 352] (by decide +kernel) (by decide +kernel)) (goodIn_sub (fun _ h => List.mem_cons_of_mem _ (List.mem_append_right _ h)) (by decide +kernel))
set_option maxRecDepth 20000 in
theorem gX11_load_X11_startAnew : GoodIn wsX11_load (wsV RX11 79 RX11 yX11_startAnew wsX11_startAnew) := goodIn_app (goodIn_of _ (by decide +kernel)) ggX11_load_X11_startAnew
theorem dX11_load_0 : decode cX11_load 0 = .ok (.aload_n 0, 1) := by decide +kernel
theorem dX11_load_1 : decode cX11_load 1 = .ok (.getfield 30, 3) := by decide +kernel
theorem dX11_load_4 : decode cX11_load 4 = .ok (.invokevirtual 75, 3) := by decide +kernel
theorem dX11_load_7 : decode cX11_load 7 = .ok (.istore_n 1, 1) := by decide +kernel
theorem dX11_load_8 : decode cX11_load 8 = .ok (.aload_n 0, 1) := by decide +kernel
theorem dX11_load_9 : decode cX11_load 9 = .ok (.getfield 14, 3) := by decide +kernel
theorem dX11_load_12 : decode cX11_load 12 = .ok (.iconst 0, 1) := by decide +kernel
theorem dX11_load_13 : decode cX11_load 13 = .ok (.putfield 97, 3) := by decide +kernel
theorem dX11_load_16 : decode cX11_load 16 = .ok (.iload_n 1, 1) := by decide +kernel
theorem dX11_load_17 : decode cX11_load 17 = .ok (.ifCond .lt 7, 3) := by decide +kernel
theorem dX11_load_20 : decode cX11_load 20 = .ok (.aload_n 0, 1) := by decide +kernel
theorem dX11_load_21 : decode cX11_load 21 = .ok (.invokevirtual 79, 3) := by decide +kernel
theorem dX11_load_24 : decode cX11_load 24 = .ok (.iload_n 1, 1) := by decide +kernel
theorem dX11_load_25 : decode cX11_load 25 = .ok (.ireturn, 1) := by decide +kernel
