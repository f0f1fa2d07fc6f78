set_option maxRecDepth 20000 in
theorem ggX11_observe_X3_keyOf : GoodIn wsX11_observe wsX3_keyOf := goodIn_r _ [5, 6, 7] (by decide +kernel) (by decide +kernel)
set_option maxRecDepth 20000 in
theorem gX11_observe_X3_keyOf : GoodIn wsX11_observe (va_wsS RX11 119 yX3_keyOf wsX3_keyOf) := goodIn_app (goodIn_of _ (by decide +kernel)) ggX11_observe_X3_keyOf
set_option maxRecDepth 20000 in
theorem ggX11_observe_X11_requirePackets : GoodIn wsX11_observe wsX11_requirePackets := goodIn_ca (goodIn_r _ [11, 12, 13, 14, 15] (by decide +kernel) (by decide +kernel)) (goodIn_sub (fun _ h => List.mem_cons_of_mem _ (List.mem_append_left _ (List.mem_append_left _ (List.mem_append_right _ h)))) (by decide +kernel))
set_option maxRecDepth 20000 in
theorem gX11_observe_X11_requirePackets : GoodIn wsX11_observe (va_wsS RX11 125 yX11_requirePackets wsX11_requirePackets) := goodIn_app (goodIn_of _ (by decide +kernel)) ggX11_observe_X11_requirePackets
set_option maxRecDepth 20000 in
theorem ggX11_observe_X2_takePackets : GoodIn wsX11_observe wsX2_takePackets := goodIn_ca (goodIn_ca (goodIn_r _ [20, 21, 22, 23, 24, 25, 26, 27, 19, 28, 29, 30, 31, 32, 33, 34, 35, 36, 37, 38, 39, 40, 41, 42, 43, 44, 45, 46, 47, 48, 49, 50, 51, 52, 53, 54, 55, 56, 57, 58, 4, 59, 60, 61, 62, 63, 64, 65, 66, 67, 68, 69, 70, 71, 72, 73, 74, 75, 76, 77, 78, 79, 80, 81, 82, 83, 84, 85, 86, 87, 88, 89, 90, 91, 92, 93, 94, 95, 96, 97, 98, 99, 100, 101, 102, 103, 104, 105, 106, 107, 108, 109, 110, 111, 112, 113, 114, 115, 116, 117, 118, 119, 120, 121, 122, 123, 124, 125, 126, 127, 128, 129, 130, 131, 132, 133, 134, 135, 136, 137, 138, 139, 140, 141, 142, 10, 143, 144, 145, 146, 147, 148, 149, 150, 151, 152, 153, 154, 155, 156, 157, 158, 159, 160, 161, 162, 163, 164, 165, 166, 167, 168, 169, 170, 171, 172, 173, 174, 175, 176, 177, 178, 179, 180, 181, 182, 183, 184, 185, 186, 187, 188, 189, 190, 191, 192, 193, 194, 195, 196, 197, 198, 199, 200, 201, 202, 203, 204, 205, 206, 207, 208, 209, 210, 211, 212, 213, 214, 215, 216, 217, 218, 219, 220, 221, 222, 223, 224, 233, 234, 235, 236, 237, 238, 239, 240, 241, 242, 243, 244, 245, 246, 247, 248, 249, 250, 251, 252, 253, 254, 255, 256, 257, 258, 259, 260, 261, 262, 263, 264, 265, 266, 267, 268, 269, 270, 271, 272, 273, 274, 275, 276, 277] (by decide +kernel) (by decide +kernel)) (goodIn_sub (fun _ h => List.mem_cons_of_mem _ (List.mem_append_left _ (List.mem_append_right _ h))) (by decide +kernel))) (goodIn_sub (fun _ h => List.mem_cons_of_mem _ (List.mem_append_right _ h)) (by decide +kernel))
set_option maxRecDepth 20000 in
theorem gX11_observe_X2_takePackets : GoodIn wsX11_observe (wsV RX11 129 RX2 yX2_takePackets wsX2_takePackets) := goodIn_app (goodIn_of _ (by decide +kernel)) ggX11_observe_X2_takePackets
theorem dX11_observe_0 : decode cX11_observe 0 = .ok (.iload_n 1, 1) := by decide +kernel
theorem dX11_observe_1 : decode cX11_observe 1 = .ok (.iload_n 2, 1) := by decide +kernel
theorem dX11_observe_2 : decode cX11_observe 2 = .ok (.iload_n 3, 1) := by decide +kernel
theorem dX11_observe_3 : decode cX11_observe 3 = .ok (.iload 4, 2) := by decide +kernel
theorem dX11_observe_5 : decode cX11_observe 5 = .ok (.invokestatic 119, 3) := by decide +kernel
theorem dX11_observe_8 : decode cX11_observe 8 = .ok (.lstore 6, 2) := by decide +kernel
theorem dX11_observe_10 : decode cX11_observe 10 = .ok (.lload 6, 2) := by decide +kernel
theorem dX11_observe_12 : decode cX11_observe 12 = .ok (.iload 5, 2) := by decide +kernel
theorem dX11_observe_14 : decode cX11_observe 14 = .ok (.iconst 1, 1) := by decide +kernel
theorem dX11_observe_15 : decode cX11_observe 15 = .ok (.invokestatic 125, 3) := by decide +kernel
theorem dX11_observe_18 : decode cX11_observe 18 = .ok (.aload_n 0, 1) := by decide +kernel
theorem dX11_observe_19 : decode cX11_observe 19 = .ok (.getfield 55, 3) := by decide +kernel
theorem dX11_observe_22 : decode cX11_observe 22 = .ok (.lload 6, 2) := by decide +kernel
theorem dX11_observe_24 : decode cX11_observe 24 = .ok (.iload 5, 2) := by decide +kernel
theorem dX11_observe_26 : decode cX11_observe 26 = .ok (.iconst 1, 1) := by decide +kernel
theorem dX11_observe_27 : decode cX11_observe 27 = .ok (.invokevirtual 129, 3) := by decide +kernel
theorem dX11_observe_30 : decode cX11_observe 30 = .ok (.iconst 1, 1) := by decide +kernel
theorem dX11_observe_31 : decode cX11_observe 31 = .ok (.if_icmp .ne 7, 3) := by decide +kernel
theorem dX11_observe_34 : decode cX11_observe 34 = .ok (.iconst 1, 1) := by decide +kernel
theorem dX11_observe_35 : decode cX11_observe 35 = .ok (.goto 4, 3) := by decide +kernel
theorem dX11_observe_38 : decode cX11_observe 38 = .ok (.iconst 0, 1) := by decide +kernel
theorem dX11_observe_39 : decode cX11_observe 39 = .ok (.ireturn, 1) := by decide +kernel
