theorem dX11_setAdaptive_0 : decode cX11_setAdaptive 0 = .ok (.aload_n 0, 1) := by decide +kernel
theorem dX11_setAdaptive_1 : decode cX11_setAdaptive 1 = .ok (.getfield 55, 3) := by decide +kernel
theorem dX11_setAdaptive_4 : decode cX11_setAdaptive 4 = .ok (.getfield 171, 3) := by decide +kernel
theorem dX11_setAdaptive_7 : decode cX11_setAdaptive 7 = .ok (.istore_n 2, 1) := by decide +kernel
theorem dX11_setAdaptive_8 : decode cX11_setAdaptive 8 = .ok (.aload_n 0, 1) := by decide +kernel
theorem dX11_setAdaptive_9 : decode cX11_setAdaptive 9 = .ok (.getfield 55, 3) := by decide +kernel
theorem dX11_setAdaptive_12 : decode cX11_setAdaptive 12 = .ok (.iload_n 1, 1) := by decide +kernel
theorem dX11_setAdaptive_13 : decode cX11_setAdaptive 13 = .ok (.putfield 171, 3) := by decide +kernel
theorem dX11_setAdaptive_16 : decode cX11_setAdaptive 16 = .ok (.iload_n 2, 1) := by decide +kernel
theorem dX11_setAdaptive_17 : decode cX11_setAdaptive 17 = .ok (.ireturn, 1) := by decide +kernel
theorem dX11_setSeed_0 : decode cX11_setSeed 0 = .ok (.iload_n 1, 1) := by decide +kernel
theorem dX11_setSeed_1 : decode cX11_setSeed 1 = .ok (.ifCond .ge 5, 3) := by decide +kernel
theorem dX11_setSeed_4 : decode cX11_setSeed 4 = .ok (.iconst 0, 1) := by decide +kernel
theorem dX11_setSeed_5 : decode cX11_setSeed 5 = .ok (.ireturn, 1) := by decide +kernel
theorem dX11_setSeed_6 : decode cX11_setSeed 6 = .ok (.aload_n 0, 1) := by decide +kernel
theorem dX11_setSeed_7 : decode cX11_setSeed 7 = .ok (.getfield 55, 3) := by decide +kernel
theorem dX11_setSeed_10 : decode cX11_setSeed 10 = .ok (.iload_n 1, 1) := by decide +kernel
theorem dX11_setSeed_11 : decode cX11_setSeed 11 = .ok (.putfield 175, 3) := by decide +kernel
theorem dX11_setSeed_14 : decode cX11_setSeed 14 = .ok (.iconst 1, 1) := by decide +kernel
theorem dX11_setSeed_15 : decode cX11_setSeed 15 = .ok (.ireturn, 1) := by decide +kernel
set_option maxRecDepth 20000 in
theorem ggX11_deliverAll_X7_takeOut : GoodIn wsX11_deliverAll wsX7_takeOut := goodIn_r _ [10, 11, 12, 13, 14, 15, 9, 16, 180, 181, 182] rfl (by decide +kernel)
set_option maxRecDepth 20000 in
theorem gX11_deliverAll_X7_takeOut : GoodIn wsX11_deliverAll (wsV RX11 253 RX7 yX7_takeOut wsX7_takeOut) := goodIn_app (goodIn_of _ (by decide +kernel)) ggX11_deliverAll_X7_takeOut
set_option maxRecDepth 20000 in
theorem ggX11_deliverAll_X0_take : GoodIn wsX11_deliverAll wsX0_take := goodIn_ca (goodIn_r _ [21, 22, 23, 24, 25, 26, 27, 28, 29, 30, 31, 32, 33, 34, 35, 36, 37, 38, 39, 40, 41, 20, 42, 43, 44, 45, 46, 47, 48, 49, 50, 51, 52, 53, 54, 55, 56, 57, 58, 59, 60, 61, 62, 63, 64, 65, 66, 67, 68, 69, 70, 71, 72, 73, 74, 75, 76, 77, 78, 79, 80, 81, 82, 83, 84, 85, 86, 87, 88, 89, 90, 91, 92, 93, 94, 95, 96, 97, 98, 99, 100, 101, 102, 103, 104, 105, 106, 107, 108, 109, 110, 111, 112, 113, 114, 115, 116, 117, 118, 119, 120, 121, 122, 123, 124, 125, 126, 127, 128, 129, 130, 131, 132, 133, 134, 135, 136, 137, 138, 139, 140, 141, 142, 143, 144, 145, 146, 147, 148, 149, 150, 151, 152, 153, 154, 155, 156, 157, 158, 159, 160, 161, 162, 163, 164, 165, 166, 167, 168, 169, 170, 171, 196, 197, 198, 199, 200, 201, 202, 203, 204, 205, 206, 207, 208, 209, 210, 211, 212, 213, 214, 215, 216, 217, 218, 219, 220, 221, 222, 223, 224] rfl (by decide +kernel)) (goodIn_sub (fun _ h => List.mem_cons_of_mem _ (List.mem_append_right _ h)) (by decide +kernel))
set_option maxRecDepth 20000 in
theorem gX11_deliverAll_X0_take : GoodIn wsX11_deliverAll (wsV RX11 256 RX0 yX0_take wsX0_take) := goodIn_app (goodIn_of _ (by decide +kernel)) ggX11_deliverAll_X0_take
theorem dX11_deliverAll_0 : decode cX11_deliverAll 0 = .ok (.iconst 0, 1) := by decide +kernel
theorem dX11_deliverAll_1 : decode cX11_deliverAll 1 = .ok (.istore_n 1, 1) := by decide +kernel
theorem dX11_deliverAll_2 : decode cX11_deliverAll 2 = .ok (.aload_n 0, 1) := by decide +kernel
theorem dX11_deliverAll_3 : decode cX11_deliverAll 3 = .ok (.getfield 37, 3) := by decide +kernel
theorem dX11_deliverAll_6 : decode cX11_deliverAll 6 = .ok (.getfield 231, 3) := by decide +kernel
theorem dX11_deliverAll_9 : decode cX11_deliverAll 9 = .ok (.istore_n 2, 1) := by decide +kernel
theorem dX11_deliverAll_10 : decode cX11_deliverAll 10 = .ok (.iload_n 2, 1) := by decide +kernel
theorem dX11_deliverAll_11 : decode cX11_deliverAll 11 = .ok (.ifCond .le 34, 3) := by decide +kernel
theorem dX11_deliverAll_14 : decode cX11_deliverAll 14 = .ok (.iload_n 1, 1) := by decide +kernel
theorem dX11_deliverAll_15 : decode cX11_deliverAll 15 = .ok (.aload_n 0, 1) := by decide +kernel
theorem dX11_deliverAll_16 : decode cX11_deliverAll 16 = .ok (.getfield 71, 3) := by decide +kernel
theorem dX11_deliverAll_19 : decode cX11_deliverAll 19 = .ok (.aload_n 0, 1) := by decide +kernel
theorem dX11_deliverAll_20 : decode cX11_deliverAll 20 = .ok (.getfield 37, 3) := by decide +kernel
theorem dX11_deliverAll_23 : decode cX11_deliverAll 23 = .ok (.iconst 0, 1) := by decide +kernel
theorem dX11_deliverAll_24 : decode cX11_deliverAll 24 = .ok (.invokevirtual 253, 3) := by decide +kernel
theorem dX11_deliverAll_27 : decode cX11_deliverAll 27 = .ok (.aload_n 0, 1) := by decide +kernel
theorem dX11_deliverAll_28 : decode cX11_deliverAll 28 = .ok (.getfield 55, 3) := by decide +kernel
theorem dX11_deliverAll_31 : decode cX11_deliverAll 31 = .ok (.getfield 110, 3) := by decide +kernel
theorem dX11_deliverAll_34 : decode cX11_deliverAll 34 = .ok (.invokevirtual 256, 3) := by decide +kernel
theorem dX11_deliverAll_37 : decode cX11_deliverAll 37 = .ok (.iadd, 1) := by decide +kernel
theorem dX11_deliverAll_38 : decode cX11_deliverAll 38 = .ok (.istore_n 1, 1) := by decide +kernel
theorem dX11_deliverAll_39 : decode cX11_deliverAll 39 = .ok (.iinc 2 (-1), 3) := by decide +kernel
theorem dX11_deliverAll_42 : decode cX11_deliverAll 42 = .ok (.goto (-32), 3) := by decide +kernel
theorem dX11_deliverAll_45 : decode cX11_deliverAll 45 = .ok (.iload_n 1, 1) := by decide +kernel
theorem dX11_deliverAll_46 : decode cX11_deliverAll 46 = .ok (.ireturn, 1) := by decide +kernel
set_option maxRecDepth 20000 in
theorem ggX11_receive_X0_take : GoodIn wsX11_receive wsX0_take := goodIn_ca (goodIn_r _ [10, 11, 12, 13, 14, 15, 16, 17, 18, 19, 20, 21, 22, 23, 24, 25, 26, 27, 28, 29, 30, 9, 31, 32, 33, 34, 35, 36, 37, 38, 39, 40, 41, 42, 43, 44, 45, 46, 47, 48, 49, 50, 51, 52, 53, 54, 55, 56, 57, 58, 59, 60, 61, 62, 63, 64, 65, 66, 67, 68, 69, 70, 71, 72, 73, 74, 75, 76, 77, 78, 79, 80, 81, 82, 83, 84, 85, 86, 87, 88, 89, 90, 91, 92, 93, 94, 95, 96, 97, 98, 99, 100, 101, 102, 103, 104, 105, 106, 107, 108, 109, 110, 111, 112, 113, 114, 115, 116, 117, 118, 119, 120, 121, 122, 123, 124, 125, 126, 127, 128, 129, 130, 131, 132, 133, 134, 135, 136, 137, 138, 139, 140, 141, 142, 143, 144, 145, 146, 147, 148, 149, 150, 151, 152, 153, 154, 155, 156, 157, 158, 159, 160, 184, 185, 186, 187, 188, 189, 190, 191, 192, 193, 194, 195, 182, 183, 196, 197, 198, 199, 200, 201, 202, 203, 204, 205, 206, 207, 208, 209, 210] rfl (by decide +kernel)) (goodIn_sub (fun _ h => List.mem_cons_of_mem _ (List.mem_append_right _ h)) (by decide +kernel))
set_option maxRecDepth 20000 in
theorem gX11_receive_X0_take : GoodIn wsX11_receive (wsV RX11 256 RX0 yX0_take wsX0_take) := goodIn_app (goodIn_of _ (by decide +kernel)) ggX11_receive_X0_take
theorem dX11_receive_0 : decode cX11_receive 0 = .ok (.aload_n 0, 1) := by decide +kernel
theorem dX11_receive_1 : decode cX11_receive 1 = .ok (.getfield 71, 3) := by decide +kernel
theorem dX11_receive_4 : decode cX11_receive 4 = .ok (.aload_n 0, 1) := by decide +kernel
theorem dX11_receive_5 : decode cX11_receive 5 = .ok (.getfield 14, 3) := by decide +kernel
theorem dX11_receive_8 : decode cX11_receive 8 = .ok (.aload_n 0, 1) := by decide +kernel
theorem dX11_receive_9 : decode cX11_receive 9 = .ok (.getfield 55, 3) := by decide +kernel
theorem dX11_receive_12 : decode cX11_receive 12 = .ok (.getfield 110, 3) := by decide +kernel
theorem dX11_receive_15 : decode cX11_receive 15 = .ok (.invokevirtual 256, 3) := by decide +kernel
theorem dX11_receive_18 : decode cX11_receive 18 = .ok (.istore_n 1, 1) := by decide +kernel
theorem dX11_receive_19 : decode cX11_receive 19 = .ok (.aload_n 0, 1) := by decide +kernel
theorem dX11_receive_20 : decode cX11_receive 20 = .ok (.getfield 14, 3) := by decide +kernel
theorem dX11_receive_23 : decode cX11_receive 23 = .ok (.iconst 0, 1) := by decide +kernel
theorem dX11_receive_24 : decode cX11_receive 24 = .ok (.putfield 97, 3) := by decide +kernel
theorem dX11_receive_27 : decode cX11_receive 27 = .ok (.iload_n 1, 1) := by decide +kernel
theorem dX11_receive_28 : decode cX11_receive 28 = .ok (.ireturn, 1) := by decide +kernel
set_option maxRecDepth 20000 in
theorem ggX11_find_X3_keyOf : GoodIn wsX11_find wsX3_keyOf := goodIn_r _ [5, 6, 7] rfl (by decide +kernel)
set_option maxRecDepth 20000 in
theorem gX11_find_X3_keyOf : GoodIn wsX11_find (va_wsS RX11 119 yX3_keyOf wsX3_keyOf) := goodIn_app (goodIn_of _ (by decide +kernel)) ggX11_find_X3_keyOf
set_option maxRecDepth 20000 in
theorem ggX11_find_X9_indexOf : GoodIn wsX11_find wsX9_indexOf := goodIn_ca (goodIn_r _ [12, 13, 14, 23, 24, 25, 26, 27] rfl (by decide +kernel)) (goodIn_sub (fun _ h => List.mem_cons_of_mem _ (List.mem_append_right _ h)) (by decide +kernel))
set_option maxRecDepth 20000 in
theorem gX11_find_X9_indexOf : GoodIn wsX11_find (wsV RX11 308 RX9 yX9_indexOf wsX9_indexOf) := goodIn_app (goodIn_of _ (by decide +kernel)) ggX11_find_X9_indexOf
theorem dX11_find_0 : decode cX11_find 0 = .ok (.aload_n 0, 1) := by decide +kernel
theorem dX11_find_1 : decode cX11_find 1 = .ok (.getfield 62, 3) := by decide +kernel
theorem dX11_find_4 : decode cX11_find 4 = .ok (.iload_n 1, 1) := by decide +kernel
theorem dX11_find_5 : decode cX11_find 5 = .ok (.iload_n 2, 1) := by decide +kernel
theorem dX11_find_6 : decode cX11_find 6 = .ok (.iload_n 3, 1) := by decide +kernel
theorem dX11_find_7 : decode cX11_find 7 = .ok (.iload 4, 2) := by decide +kernel
theorem dX11_find_9 : decode cX11_find 9 = .ok (.invokestatic 119, 3) := by decide +kernel
theorem dX11_find_12 : decode cX11_find 12 = .ok (.invokevirtual 308, 3) := by decide +kernel
theorem dX11_find_15 : decode cX11_find 15 = .ok (.ireturn, 1) := by decide +kernel
